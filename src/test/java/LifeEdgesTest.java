import java.util.function.Supplier;

/**
 * The life of an object: it answers up to its 512th call (what it answers later is free), its log may
 * hold more entries than that, and calls that only look change nothing.
 */
public final class LifeEdgesTest {
    private static final Edges EDGES = new Edges();
    private static final int CALLS = 512;

    public static void main(String[] args) {
        lastCallOfPrinters();
        lastCallOfJobs();
        lastCallOfReleases();
        lastCallOfLog();
        lastCallRefused();
        moreEntriesThanCalls();
        whatOnlyLooks();
        whatOnlyLooksAtTheLog();
        EDGES.end("LifeEdgesTest");
    }

    /** A job of 2 pages, held, and so many calls of the object's 512 made, most of them without a change. */
    private static Supplier<SpoolFarm> used(int calls) {
        int made = 4;
        return Farms.after(Farms.job(2, 1, false, false), x -> {
            for (int call = made; call < calls; call++) {
                look(x, call);
            }
        });
    }

    private static void look(SpoolFarm farm, int call) {
        switch (call % 8) {
            case 0 -> farm.writeJob(0);
            case 1 -> farm.wouldPrint(0, 0);
            case 2 -> farm.queueAt(0, 0);
            case 3 -> farm.billByLog(0);
            case 4 -> Refusals.of(() -> farm.stopOf(0));
            case 5 -> farm.setToner(0, false, 1000);
            case 6 -> farm.isConsistent();
            default -> farm.logSize();
        }
    }

    private static void last(String name, Edges.Call call, Object due) {
        EDGES.due("0 the 512th call, " + name, used(CALLS - 1), call, due);
    }

    private static void lastCallOfPrinters() {
        last("addUser", x -> x.addUser(1, 1), 1);
        last("addPrinter", x -> x.addPrinter(true, 1, 1), 1);
        last("addTray", x -> x.addTray(0, 'b', 1), 1);
        last("trayCount", x -> x.trayCount(0), 1);
        EDGES.due("0 the 512th call, load", Farms.after(used(CALLS - 3), x -> {
            x.addTray(0, 'l', 499);
            x.sheetsIn(0, 1);
        }), x -> x.load(0, 1, 1), 500);
        EDGES.due("0 the 512th call, changePaper", Farms.after(used(CALLS - 2), x -> x.addTray(0, 'l', 0)),
            x -> x.changePaper(0, 1, 'b'), 'l');
        last("sheetsIn", x -> x.sheetsIn(0, 0), 500);
        last("paperOf", x -> x.paperOf(0, 0), 'a');
        last("setToner", x -> x.setToner(0, false, 1), 1000);
        last("tonerOf", x -> x.tonerOf(0, true), 1000);
        last("setStaples", x -> x.setStaples(0, 1), 100);
        last("staplesIn", x -> x.staplesIn(0), 100);
        last("grant", x -> x.grant(0, true, 1), 1000);
        last("quotaOf", x -> x.quotaOf(0, false), 999);
        last("setPrices", x -> x.setPrices(1, 1, 1), 2);
    }

    private static void lastCallOfJobs() {
        last("submit", x -> x.submit(0, 1, 1, 'a', true, true), 1);
        last("setStapled", x -> x.setStapled(0, true), false);
        last("cancel", x -> x.cancel(0), 2);
        last("stateOf", x -> x.stateOf(0), 'h');
        last("pagesLeft", x -> x.pagesLeft(0), 2);
        last("sheetsOut", x -> x.sheetsOut(0), 0);
        last("stapledCopies", x -> x.stapledCopies(0), 0);
        last("writeJob", x -> x.writeJob(0), 9);
        EDGES.due("0 the 512th call, lineAt", Farms.after(used(CALLS - 2), x -> x.writeJob(0)), x -> x.lineAt(8), '4');
    }

    private static void lastCallOfReleases() {
        last("reasonFor", x -> x.reasonFor(0, 0), '-');
        last("wouldPrint", x -> x.wouldPrint(0, 0), 2);
        last("release", x -> x.release(0, 0), 2);
        last("releaseAll", x -> x.releaseAll(0, 0), 1);
        last("bestPrinter", x -> x.bestPrinter(0), 0);
        last("queueLength", x -> x.queueLength(0), 1);
        last("queueAt", x -> x.queueAt(0, 0), 0);
        EDGES.due("0 the 512th call, stopOf", Farms.after(used(CALLS - 2), x -> x.release(0, 0)), x -> x.stopOf(0), 'd');
    }

    private static void lastCallOfLog() {
        last("logSize", x -> x.logSize(), 0);
        last("isConsistent", x -> x.isConsistent(), true);
        released("logJob", x -> x.logJob(0), 0);
        released("logPrinter", x -> x.logPrinter(0), 0);
        released("logPages", x -> x.logPages(0), 2);
        released("logSheets", x -> x.logSheets(0), 2);
        released("pagesOf", x -> x.pagesOf(0), 2);
        released("pagesByLog", x -> x.pagesByLog(0), 2);
        released("billOf", x -> x.billOf(0), 6L);
        released("billByLog", x -> x.billByLog(0), 6L);
        released("meanPages", x -> x.meanPages(), 2.0);
        released("colourShare", x -> x.colourShare(), 0.0f);
    }

    /** The 511th call is the release. */
    private static void released(String name, Edges.Call call, Object due) {
        EDGES.due("0 the 512th call, " + name, Farms.after(used(CALLS - 2), x -> x.release(0, 0)), call, due);
    }

    private static void lastCallRefused() {
        last("addUser refused", x -> thrown(() -> x.addUser(-1, 0)), "IllegalArgumentException");
        last("trayCount refused", x -> thrown(() -> x.trayCount(1)), "IndexOutOfBoundsException");
        last("changePaper refused", x -> thrown(() -> x.changePaper(0, 0, 'b')), "IllegalStateException");
        last("release refused", x -> thrown(() -> x.release(0, 1)), "IndexOutOfBoundsException");
        last("stopOf refused", x -> thrown(() -> x.stopOf(0)), "NoSuchElementException");
        last("meanPages refused", x -> thrown(() -> x.meanPages()), "ArithmeticException");
    }

    private static String thrown(Runnable call) {
        try {
            call.run();
        } catch (RuntimeException thrown) {
            return Check.name(thrown);
        }
        return "nothing";
    }

    /**
     * Three jobs of 900 pages, each of which brings out one sheet by each releaseAll: 7 units are
     * 4 for a mono sheet of two pages, 2 for a mono page and 1 for a colour page.
     */
    private static Supplier<SpoolFarm> releasedOften(int times) {
        return Farms.after(Farms.office(999, 1000, 0, 500), x -> {
            x.addTray(0, 'a', 500);
            x.submit(0, 100, 9, 'a', false, true);
            x.submit(0, 100, 9, 'a', false, false);
            x.submit(0, 100, 9, 'a', true, false);
            for (int time = 0; time < times; time++) {
                x.setToner(0, false, 7);
                x.releaseAll(0, 0);
            }
        });
    }

    private static void moreEntriesThanCalls() {
        Supplier<SpoolFarm> often = releasedOften(250);
        EDGES.due("32 logSize, more entries than calls", often, x -> x.logSize(), 750);
        EDGES.due("33 logJob, more entries than calls", often, x -> x.logJob(749), 2);
        EDGES.due("34 logPrinter, more entries than calls", often, x -> x.logPrinter(749), 0);
        EDGES.due("35 logPages, more entries than calls", often, x -> x.logPages(747), 2);
        EDGES.due("36 logSheets, more entries than calls", often, x -> x.logSheets(747), 1);
        EDGES.due("33 logJob, no entry behind more than there are calls", often, x -> thrown(() -> x.logJob(750)),
            "IndexOutOfBoundsException");
        EDGES.due("37 pagesOf, more entries than calls", often, x -> x.pagesOf(0), 1000);
        EDGES.due("38 pagesByLog, more entries than calls", often, x -> x.pagesByLog(0), 1000);
        EDGES.due("39 billOf, more entries than calls", often, x -> x.billOf(0), 750L * 2 + 250L * 9 + 750L);
        EDGES.due("40 billByLog, more entries than calls", often, x -> x.billByLog(0), 750L * 2 + 250L * 9 + 750L);
        EDGES.due("41 meanPages, more entries than calls", often, x -> x.meanPages(), 1000.0 / 750.0);
        EDGES.due("42 colourShare, more entries than calls", often, x -> x.colourShare(), 0.25f);
        EDGES.due("43 isConsistent, more entries than calls", often, x -> x.isConsistent(), true);
    }

    /** Three users, two printers and four jobs: one done, one begun, one canceled and one held. */
    private static SpoolFarm busy() {
        SpoolFarm farm = Farms.with(3, 2, 4).get();
        farm.setStapled(1, true);
        farm.release(1, 1);
        farm.setToner(0, false, 5);
        farm.release(2, 0);
        farm.cancel(3);
        farm.setPrices(3, 4, 5);
        farm.writeJob(2);
        return farm;
    }

    private static void looks(String row, Edges.Call call, Object due) {
        EDGES.unchanged(row + " changes nothing", LifeEdgesTest::busy, call, due);
    }

    private static void whatOnlyLooks() {
        looks("5 trayCount", x -> x.trayCount(1), 3);
        looks("8 sheetsIn", x -> x.sheetsIn(0, 0), 28);
        looks("9 paperOf", x -> x.paperOf(0, 1), 'b');
        looks("11 tonerOf", x -> x.tonerOf(0, false), 1);
        looks("13 staplesIn", x -> x.staplesIn(1), 20);
        looks("15 quotaOf", x -> x.quotaOf(0, false), 96);
        looks("20 stateOf", x -> x.stateOf(2), 'p');
        looks("21 pagesLeft", x -> x.pagesLeft(3), 4);
        looks("22 sheetsOut", x -> x.sheetsOut(2), 2);
        looks("23 stapledCopies", x -> x.stapledCopies(1), 1);
        looks("24 reasonFor", x -> x.reasonFor(0, 1), '-');
        looks("24 reasonFor, a reason", x -> x.reasonFor(0, 0), 't');
        looks("25 wouldPrint", x -> x.wouldPrint(2, 1), 1);
        looks("25 wouldPrint, a reason", x -> x.wouldPrint(3, 0), 0);
        looks("28 stopOf", x -> x.stopOf(2), 't');
        looks("29 bestPrinter", x -> x.bestPrinter(2), 1);
        looks("30 queueLength", x -> x.queueLength(1), 2);
        looks("31 queueAt", x -> x.queueAt(1, 1), 2);
        looks("45 lineAt", x -> x.lineAt(3), '2');
    }

    private static void whatOnlyLooksAtTheLog() {
        looks("32 logSize", x -> x.logSize(), 2);
        looks("33 logJob", x -> x.logJob(1), 2);
        looks("34 logPrinter", x -> x.logPrinter(0), 1);
        looks("35 logPages", x -> x.logPages(1), 2);
        looks("36 logSheets", x -> x.logSheets(0), 2);
        looks("37 pagesOf", x -> x.pagesOf(0), 4);
        looks("38 pagesByLog", x -> x.pagesByLog(0), 4);
        looks("39 billOf", x -> x.billOf(0), 12L);
        looks("40 billByLog", x -> x.billByLog(0), 12L);
        looks("41 meanPages", x -> x.meanPages(), 2.0);
        looks("42 colourShare", x -> x.colourShare(), 0.0f);
        looks("43 isConsistent", x -> x.isConsistent(), true);
    }
}
