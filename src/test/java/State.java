import java.util.function.IntFunction;

/** All that can be seen of a farm without changing it. */
final class State {
    private State() {
    }

    static String of(SpoolFarm farm) {
        StringBuilder text = new StringBuilder();
        text.append(rows("user", user -> farm.quotaOf(user, false) + " " + farm.quotaOf(user, true)
            + " " + farm.pagesOf(user) + " " + farm.billOf(user)));
        text.append(rows("printer", printer -> farm.trayCount(printer) + " " + farm.staplesIn(printer)
            + " " + farm.tonerOf(printer, false) + " " + colourToner(farm, printer) + trays(farm, printer)));
        text.append(rows("job", job -> farm.stateOf(job) + " " + farm.pagesLeft(job) + " "
            + farm.sheetsOut(job) + " " + farm.stapledCopies(job) + " " + stop(farm, job)));
        text.append(rows("entry", entry -> farm.logJob(entry) + " " + farm.logPrinter(entry) + " "
            + farm.logPages(entry) + " " + farm.logSheets(entry)));
        text.append("line ").append(line(farm));
        return text.toString();
    }

    static String line(SpoolFarm farm) {
        StringBuilder text = new StringBuilder();
        for (int i = 0; i < 100; i++) {
            try {
                text.append(farm.lineAt(i));
            } catch (IndexOutOfBoundsException end) {
                return text.toString();
            }
        }
        return text.toString();
    }

    private static String trays(SpoolFarm farm, int printer) {
        return rows("tray", tray -> farm.paperOf(printer, tray) + " " + farm.sheetsIn(printer, tray));
    }

    private static String rows(String name, IntFunction<String> row) {
        StringBuilder text = new StringBuilder();
        for (int i = 0; i < 1000; i++) {
            try {
                text.append(name).append(i).append(' ').append(row.apply(i)).append("; ");
            } catch (IndexOutOfBoundsException end) {
                return text.append("end; ").toString();
            }
        }
        return text.toString();
    }

    private static String colourToner(SpoolFarm farm, int printer) {
        try {
            return "" + farm.tonerOf(printer, true);
        } catch (UnsupportedOperationException none) {
            return "none";
        }
    }

    private static String stop(SpoolFarm farm, int job) {
        try {
            return "" + farm.stopOf(job);
        } catch (java.util.NoSuchElementException none) {
            return "none";
        }
    }
}
