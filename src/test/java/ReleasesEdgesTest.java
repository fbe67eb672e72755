import java.util.function.Supplier;

/** Promises 24 to 31 at their edges, and the terms they rest on: releases, reasons and queues. */
public final class ReleasesEdgesTest {
    private static final Edges EDGES = new Edges();

    public static void main(String[] args) {
        numbers();
        firstOfSeveralReasons();
        theOnlyReason();
        noReason();
        reasonsAtTheirEdges();
        traysOfTheReasons();
        wouldPrint();
        release();
        traysOfARelease();
        releaseAll();
        releaseAllByNumbers();
        stopOf();
        bestPrinter();
        queueLength();
        queueAt();
        queueOfOthersAlone();
        queueOrder();
        EDGES.end("ReleasesEdgesTest");
    }

    // Promises 24 to 31: there is no such job, printer or user
    private static void numbers() {
        EDGES.jobs("24 reasonFor", (x, job) -> x.reasonFor(job, 0), job -> '-');
        EDGES.printers("24 reasonFor", (x, printer) -> x.reasonFor(0, printer), printer -> '-');
        EDGES.jobs("25 wouldPrint", (x, job) -> x.wouldPrint(job, 0), job -> Math.min(job + 1, 30));
        EDGES.printers("25 wouldPrint", (x, printer) -> x.wouldPrint(0, printer), printer -> 1);
        EDGES.jobs("26 release", (x, job) -> x.release(job, 0), job -> Math.min(job + 1, 30));
        EDGES.printers("26 release", (x, printer) -> x.release(0, printer), printer -> 1);
        EDGES.users("27 releaseAll", (x, user) -> x.releaseAll(user, 0), user -> 0);
        EDGES.printers("27 releaseAll", (x, printer) -> x.releaseAll(0, printer), printer -> 1);
        EDGES.jobs("29 bestPrinter", (x, job) -> x.bestPrinter(job), job -> 0);
        EDGES.printers("30 queueLength", (x, printer) -> x.queueLength(printer), printer -> 1);
        EDGES.printers("31 queueAt", (x, printer) -> x.queueAt(printer, 0), printer -> 0);
        for (int jobs : new int[] {0, 1, 3, 40}) {
            EDGES.numbers("28 stopOf, job", Edges.INDEX, jobs, Farms.done(jobs), (x, job) -> x.stopOf(job), job -> 'd');
            EDGES.outOfRange("28 stopOf, no job before not released, of " + jobs, 0, jobs - 1, Edges.INDEX,
                Farms.with(1, 1, jobs), (x, job) -> x.stopOf(job));
            EDGES.outOfRange("26 release, no job before no sheet, of " + jobs, 0, jobs - 1, Edges.INDEX,
                Farms.after(Farms.with(1, 1, jobs), x -> x.setToner(0, false, 0)), (x, job) -> x.release(job, 0));
            EDGES.outOfRange("29 bestPrinter, no job before no page, of " + jobs, 0, jobs - 1, Edges.INDEX,
                Farms.with(1, 0, jobs), (x, job) -> x.bestPrinter(job));
        }
        EDGES.outOfRange("26 release, no printer before no sheet", 0, 0, Edges.INDEX, Farms.done(1),
            (x, printer) -> x.release(0, printer));
        EDGES.outOfRange("24 reasonFor, no printer before a reason", 0, 0, Edges.INDEX, Farms.done(1),
            (x, printer) -> x.reasonFor(0, printer));
        EDGES.outOfRange("25 wouldPrint, no printer before a reason", 0, 0, Edges.INDEX, Farms.done(1),
            (x, printer) -> x.wouldPrint(0, printer));
        EDGES.outOfRange("27 releaseAll, no printer without jobs", 0, 0, Edges.INDEX, Farms.office(9, 9, 9, 9),
            (x, printer) -> x.releaseAll(0, printer));
        EDGES.outOfRange("31 queueAt, no printer before a position below", 0, 0, Edges.INDEX, Farms.done(1),
            (x, printer) -> x.queueAt(printer, -1));
        EDGES.outOfRange("31 queueAt, no printer before a position above", 0, 0, Edges.INDEX, Farms.done(1),
            (x, printer) -> x.queueAt(printer, 40));
        for (int number : new int[] {-1, 1, Integer.MIN_VALUE, Integer.MAX_VALUE}) {
            EDGES.refused("24 reasonFor, neither job nor printer " + number, Edges.INDEX, Farms.with(1, 1, 1),
                x -> x.reasonFor(number, number));
            EDGES.refused("25 wouldPrint, neither job nor printer " + number, Edges.INDEX, Farms.with(1, 1, 1),
                x -> x.wouldPrint(number, number));
            EDGES.refused("26 release, neither job nor printer " + number, Edges.INDEX, Farms.with(1, 1, 1),
                x -> x.release(number, number));
            EDGES.refused("27 releaseAll, neither user nor printer " + number, Edges.INDEX, Farms.with(1, 1, 1),
                x -> x.releaseAll(number, number));
        }
    }

    /**
     * Job 0 has 4 letter pages, duplex, and is released at printer 1, which has a tray of letter
     * if sheets is not below 0; at printer 0 nothing is short.
     */
    private static Supplier<SpoolFarm> farm(boolean isColour, int quota, boolean isColourPrinter, int black,
            int colour, int sheets) {
        return Farms.after(SpoolFarm::new, x -> {
            x.addUser(isColour ? 999 : quota, isColour ? quota : 999);
            x.addPrinter(true, 1000, 10);
            x.addTray(0, 'l', 500);
            x.addPrinter(isColourPrinter, black, 10);
            if (isColourPrinter) {
                x.setToner(1, true, colour);
            }
            x.addTray(1, 'a', 500);
            if (sheets >= 0) {
                x.addTray(1, 'l', sheets);
            }
            x.submit(0, 4, 1, 'l', isColour, true);
        });
    }

    private static Supplier<SpoolFarm> done(Supplier<SpoolFarm> farm) {
        return Farms.after(farm, x -> x.release(0, 0));
    }

    private static Supplier<SpoolFarm> canceled(Supplier<SpoolFarm> farm) {
        return Farms.after(farm, x -> x.cancel(0));
    }

    /** What all calls say of a reason at printer 1. */
    private static void reason(String row, Supplier<SpoolFarm> maker, char reason) {
        EDGES.due("24 reasonFor, " + row, maker, x -> x.reasonFor(0, 1), reason);
        EDGES.due("25 wouldPrint, 0 pages, " + row, maker, x -> x.wouldPrint(0, 1), 0);
        EDGES.refused("26 release, no sheet, " + row, Edges.UNSUPPORTED, maker, x -> x.release(0, 1));
        EDGES.unchanged("27 releaseAll, no sheet, " + row, maker, x -> x.releaseAll(0, 1), 0);
        EDGES.due("30 queueLength, " + row, maker, x -> x.queueLength(1), 0);
        EDGES.refused("31 queueAt, " + row, Edges.NO_ELEMENT, maker, x -> x.queueAt(1, 0));
        EDGES.due("26 release, no entry, " + row, maker, x -> {
            int before = x.logSize();
            Refusals.of(() -> x.release(0, 1));
            return x.logSize() - before;
        }, 0);
    }

    // Terms, Reasons: each of them with all that come after it
    private static void firstOfSeveralReasons() {
        reason("done, and all others but canceled", done(farm(true, 4, false, 0, 0, -1)), 'd');
        reason("canceled, and all others behind", canceled(farm(true, 0, false, 0, 0, -1)), 'x');
        reason("no colour, and all others behind", farm(true, 0, false, 0, 0, -1), 'n');
        reason("no colour, before no paper", farm(true, 0, false, 0, 0, 0), 'n');
        reason("no colour, before black toner", farm(true, 0, false, 0, 0, 5), 'n');
        reason("no tray, and all others behind", farm(true, 0, true, 0, 0, -1), 'k');
        reason("no paper, and all others behind", farm(true, 0, true, 0, 0, 0), 'p');
        reason("black toner, and all others behind", farm(true, 0, true, 0, 0, 1), 't');
        reason("black toner of 1, and all others behind", farm(true, 1, true, 1, 5, 1), 't');
        reason("colour toner, and the quota", farm(true, 0, true, 2, 0, 1), 'c');
        reason("colour toner of 5, and the quota of 1", farm(true, 1, true, 2, 5, 1), 'c');
        reason("mono: no tray, and all others behind", farm(false, 0, true, 0, 0, -1), 'k');
        reason("mono: no paper, and all others behind", farm(false, 0, true, 0, 0, 0), 'p');
        reason("mono: black toner, and the quota", farm(false, 0, true, 0, 0, 1), 't');
        reason("mono: black toner of 3, and the quota of 1", farm(false, 1, true, 3, 0, 1), 't');
    }

    private static void theOnlyReason() {
        reason("done, and no other", done(farm(true, 999, true, 1000, 1000, 500)), 'd');
        reason("canceled, and no other", canceled(farm(true, 999, true, 1000, 1000, 500)), 'x');
        reason("no colour, and no other", farm(true, 999, false, 1000, 0, 500), 'n');
        reason("no tray, and no other", farm(true, 999, true, 1000, 1000, -1), 'k');
        reason("no paper, and no other", farm(true, 999, true, 1000, 1000, 0), 'p');
        reason("black toner, and no other", farm(true, 999, true, 1, 1000, 500), 't');
        reason("colour toner, and no other", farm(true, 999, true, 1000, 5, 500), 'c');
        reason("colour quota, and no other", farm(true, 1, true, 1000, 1000, 500), 'q');
        reason("mono: no tray, and no other", farm(false, 999, false, 1000, 0, -1), 'k');
        reason("mono: no paper, and no other", farm(false, 999, false, 1000, 0, 0), 'p');
        reason("mono: black toner, and no other", farm(false, 999, false, 3, 0, 500), 't');
        reason("mono: quota, and no other", farm(false, 1, false, 1000, 0, 500), 'q');
    }

    /** A sheet comes out at printer 1. */
    private static void sheet(String row, Supplier<SpoolFarm> maker, int pages, char stop) {
        EDGES.due("24 reasonFor, " + row, maker, x -> x.reasonFor(0, 1), '-');
        EDGES.due("25 wouldPrint, " + row, maker, x -> x.wouldPrint(0, 1), pages);
        EDGES.due("26 release, " + row, maker, x -> x.release(0, 1), pages);
        EDGES.due("26 release, one entry, " + row, maker, x -> {
            int before = x.logSize();
            x.release(0, 1);
            return x.logSize() - before;
        }, 1);
        EDGES.due("28 stopOf, " + row, maker, x -> {
            x.release(0, 1);
            return x.stopOf(0);
        }, stop);
        EDGES.due("28 stopOf, by releaseAll, " + row, maker, x -> {
            x.releaseAll(0, 1);
            return x.stopOf(0);
        }, stop);
        EDGES.due("27 releaseAll, " + row, maker, x -> x.releaseAll(0, 1), stop == 'd' ? 1 : 0);
        EDGES.due("30 queueLength, " + row, maker, x -> x.queueLength(1), 1);
        EDGES.due("31 queueAt, " + row, maker, x -> x.queueAt(1, 0), 0);
    }

    private static void noReason() {
        sheet("one sheet of all", farm(true, 2, true, 2, 6, 1), 2, 'p');
        sheet("one sheet, then black toner", farm(true, 999, true, 2, 1000, 500), 2, 't');
        sheet("one sheet, then black toner, 1 too few", farm(true, 999, true, 3, 1000, 500), 2, 't');
        sheet("one sheet, then colour toner", farm(true, 999, true, 1000, 6, 500), 2, 'c');
        sheet("one sheet, then colour toner, 1 too few", farm(true, 999, true, 1000, 11, 500), 2, 'c');
        sheet("one sheet, then the quota", farm(true, 2, true, 1000, 1000, 500), 2, 'q');
        sheet("one sheet, then the quota, 1 too few", farm(true, 3, true, 1000, 1000, 500), 2, 'q');
        sheet("one sheet, then paper", farm(true, 999, true, 1000, 1000, 1), 2, 'p');
        sheet("just enough of all", farm(true, 4, true, 4, 12, 2), 4, 'd');
        sheet("just too little black toner", farm(true, 4, true, 3, 12, 2), 2, 't');
        sheet("just too little colour toner", farm(true, 4, true, 4, 11, 2), 2, 'c');
        sheet("just too little quota", farm(true, 3, true, 4, 12, 2), 2, 'q');
        sheet("just too little paper", farm(true, 4, true, 4, 12, 1), 2, 'p');
        sheet("mono: one sheet of all", farm(false, 2, false, 4, 0, 1), 2, 'p');
        sheet("mono: just enough of all", farm(false, 4, false, 8, 0, 2), 4, 'd');
        sheet("mono: just too little black toner", farm(false, 4, false, 7, 0, 2), 2, 't');
        sheet("mono: just too little quota", farm(false, 3, false, 8, 0, 2), 2, 'q');
        sheet("mono: just too little paper", farm(false, 4, false, 8, 0, 1), 2, 'p');
        sheet("mono at a colour printer without colour toner", farm(false, 4, true, 8, 0, 2), 4, 'd');
        sheet("the stop is the first of several", farm(true, 2, true, 2, 6, 2), 2, 't');
        sheet("the stop is the first of two", farm(true, 2, true, 4, 6, 2), 2, 'c');
    }

    // Terms, Releases: what a page takes, and Terms, Jobs: the last sheet of an odd copy
    private static void reasonsAtTheirEdges() {
        Supplier<SpoolFarm> odd = Farms.after(Farms.office(3, 6, 10, 500), x -> {
            x.submit(0, 3, 1, 'a', false, true);
            x.setToner(0, false, 4);
            x.release(0, 0);
        });
        int[] units = {0, 1, 2, 3};
        char[] mono = {'t', 't', '-', '-'};
        for (int i = 0; i < units.length; i++) {
            int toner = units[i];
            EDGES.due("24 the last mono page by " + toner + " black", odd, x -> {
                x.setToner(0, false, toner);
                return x.reasonFor(0, 0);
            }, mono[i]);
        }
        EDGES.due("24 the last page with a quota of 1", odd, x -> {
            x.setToner(0, false, 2);
            return x.quotaOf(0, false) * 100 + x.release(0, 0);
        }, 101);
        for (int toner = 0; toner < 5; toner++) {
            int black = toner;
            EDGES.due("24 a colour page by " + toner + " black", Farms.job(1, 1, true, false), x -> {
                x.setToner(0, false, black);
                return x.reasonFor(0, 0);
            }, toner < 1 ? 't' : '-');
            EDGES.due("24 a colour page by " + toner + " colour", Farms.job(1, 1, true, false), x -> {
                x.setToner(0, true, black);
                return x.reasonFor(0, 0);
            }, toner < 3 ? 'c' : '-');
            EDGES.due("24 a sheet of 2 mono pages by " + toner + " black", Farms.job(2, 1, false, true), x -> {
                x.setToner(0, false, black);
                return x.reasonFor(0, 0);
            }, toner < 4 ? 't' : '-');
            EDGES.due("24 a sheet of 2 mono pages with a quota of " + toner,
                Farms.after(Farms.office(black, 100, 1, 9), x -> x.submit(0, 2, 1, 'a', false, true)),
                x -> x.reasonFor(0, 0), toner < 2 ? 'q' : '-');
            EDGES.due("24 a mono page with a quota of " + toner,
                Farms.after(Farms.office(black, 100, 1, 9), x -> x.submit(0, 2, 1, 'a', false, false)),
                x -> x.reasonFor(0, 0), toner < 1 ? 'q' : '-');
            EDGES.due("24 a page with " + toner + " sheets",
                Farms.after(Farms.office(9, 100, 1, black), x -> x.submit(0, 2, 1, 'a', false, false)),
                x -> x.reasonFor(0, 0), toner < 1 ? 'p' : '-');
        }
        EDGES.due("24 a mono job with no colour quota", Farms.after(SpoolFarm::new, x -> {
            x.addUser(1, 0);
            x.addPrinter(false, 2, 0);
            x.addTray(0, 'b', 1);
            x.submit(0, 1, 1, 'b', false, false);
        }), x -> x.reasonFor(0, 0), '-');
        EDGES.due("24 a colour job with no mono quota", Farms.after(SpoolFarm::new, x -> {
            x.addUser(0, 1);
            x.addPrinter(true, 3, 0);
            x.addTray(0, 'b', 1);
            x.submit(0, 1, 1, 'b', true, false);
        }), x -> x.reasonFor(0, 0), '-');
        EDGES.due("24 the quota of another user is not asked", Farms.after(Farms.office(0, 9, 9, 9), x -> {
            x.addUser(1, 1);
            x.submit(1, 1, 1, 'a', false, false);
        }), x -> x.reasonFor(0, 0), '-');
    }

    // Reasons k and p
    private static void traysOfTheReasons() {
        Supplier<SpoolFarm> none = Farms.after(Farms.trays(0), x -> {
            x.addUser(9, 9);
            x.submit(0, 1, 1, 'l', false, false);
        });
        EDGES.due("24 no tray at all", none, x -> x.reasonFor(0, 0), 'k');
        EDGES.due("24 three trays, none of its paper", Farms.after(none, x -> {
            x.addTray(0, 'a', 9);
            x.addTray(0, 'b', 9);
            x.addTray(0, 'a', 9);
        }), x -> x.reasonFor(0, 0), 'k');
        EDGES.due("24 its paper at the printer beside", Farms.after(none, x -> x.addTray(1, 'l', 9)),
            x -> x.reasonFor(0, 0), 'k');
        EDGES.due("24 three trays of its paper, all empty", Farms.after(none, x -> {
            x.addTray(0, 'l', 0);
            x.addTray(0, 'l', 0);
            x.addTray(0, 'l', 0);
        }), x -> x.reasonFor(0, 0), 'p');
        EDGES.due("24 two trays of its paper empty, another paper", Farms.after(none, x -> {
            x.addTray(0, 'l', 0);
            x.addTray(0, 'a', 500);
            x.addTray(0, 'l', 0);
        }), x -> x.reasonFor(0, 0), 'p');
        for (int tray = 0; tray < 3; tray++) {
            int full = tray;
            EDGES.due("24 a sheet in tray " + tray + " alone", Farms.after(none, x -> {
                for (int i = 0; i < 3; i++) {
                    x.addTray(0, 'l', i == full ? 1 : 0);
                }
            }), x -> x.reasonFor(0, 0), '-');
            EDGES.due("24 its paper in tray " + tray + " alone", Farms.after(none, x -> {
                for (int i = 0; i < 3; i++) {
                    x.addTray(0, i == full ? 'l' : 'b', 1);
                }
            }), x -> x.reasonFor(0, 0), '-');
        }
        EDGES.due("24 changePaper brings its paper", Farms.after(none, x -> {
            x.addTray(0, 'a', 0);
            x.changePaper(0, 0, 'l');
        }), x -> x.reasonFor(0, 0), 'p');
        EDGES.due("24 changePaper takes its paper", Farms.after(none, x -> {
            x.addTray(0, 'l', 0);
            x.changePaper(0, 0, 'a');
        }), x -> x.reasonFor(0, 0), 'k');
    }

    // Promise 25
    private static void wouldPrint() {
        EDGES.due("25 wouldPrint, the least", Farms.job(1, 1, false, false), x -> x.wouldPrint(0, 0), 1);
        EDGES.due("25 wouldPrint, all by the most mono toner", Farms.job(100, 5, false, false),
            x -> x.wouldPrint(0, 0), 500);
        EDGES.due("25 wouldPrint, one unit less", Farms.after(Farms.job(100, 5, false, false),
            x -> x.setToner(0, false, 999)), x -> x.wouldPrint(0, 0), 499);
        EDGES.due("25 wouldPrint, the most colour toner", Farms.job(100, 9, true, false), x -> x.wouldPrint(0, 0), 333);
        EDGES.due("25 wouldPrint, the most colour toner, duplex", Farms.job(100, 9, true, true),
            x -> x.wouldPrint(0, 0), 332);
        EDGES.due("25 wouldPrint, the most colour toner, odd copies", Farms.job(3, 9, true, true),
            x -> x.wouldPrint(0, 0), 27);
        EDGES.due("25 wouldPrint, the most black toner, duplex", Farms.job(100, 9, false, true),
            x -> x.wouldPrint(0, 0), 500);
        EDGES.due("25 wouldPrint, black toner of an odd count, duplex", Farms.after(Farms.job(100, 9, false, true),
            x -> x.setToner(0, false, 998)), x -> x.wouldPrint(0, 0), 498);
        for (int sheets : new int[] {0, 1, 7, 8, 9}) {
            EDGES.due("25 wouldPrint, 8 pages on " + sheets + " sheets",
                Farms.after(Farms.office(99, 99, 9, sheets), x -> x.submit(0, 4, 2, 'a', false, false)),
                x -> x.wouldPrint(0, 0), Math.min(sheets, 8));
            EDGES.due("25 wouldPrint, 8 pages with a quota of " + sheets,
                Farms.after(Farms.office(sheets, 99, 9, 99), x -> x.submit(0, 4, 2, 'a', false, false)),
                x -> x.wouldPrint(0, 0), Math.min(sheets, 8));
        }
        EDGES.due("25 wouldPrint, of what is left", Farms.after(Farms.job(9, 1, false, false), x -> {
            x.setToner(0, false, 10);
            x.release(0, 0);
            x.setToner(0, false, 1000);
        }), x -> x.wouldPrint(0, 0), 4);
        EDGES.due("25 wouldPrint, no page comes out", Farms.job(9, 1, false, false), x -> {
            x.wouldPrint(0, 0);
            x.wouldPrint(0, 0);
            return x.pagesLeft(0) + " " + x.sheetsIn(0, 0) + " " + x.tonerOf(0, false) + " " + x.quotaOf(0, false)
                + " " + x.billOf(0) + " " + x.logSize();
        }, "9 500 1000 999 0 0");
        EDGES.due("25 wouldPrint, three trays of its paper", Farms.after(Farms.office(99, 99, 9, 2), x -> {
            x.addTray(0, 'a', 1);
            x.addTray(0, 'a', 3);
            x.submit(0, 9, 1, 'a', false, false);
        }), x -> x.wouldPrint(0, 0), 6);
    }

    // Promise 26
    private static void release() {
        EDGES.due("26 release, the least takes", Farms.job(1, 1, false, false), ReleasesEdgesTest::taken,
            "1 500-1 black 2 colour 0 mono 1 colour 0 bill 3");
        EDGES.due("26 release, a colour page takes", Farms.job(1, 1, true, false), ReleasesEdgesTest::taken,
            "1 500-1 black 1 colour 3 mono 0 colour 1 bill 10");
        EDGES.due("26 release, a duplex sheet takes", Farms.job(2, 1, false, true), ReleasesEdgesTest::taken,
            "2 500-1 black 4 colour 0 mono 2 colour 0 bill 5");
        EDGES.due("26 release, a duplex colour sheet takes", Farms.job(2, 1, true, true), ReleasesEdgesTest::taken,
            "2 500-1 black 2 colour 6 mono 0 colour 2 bill 19");
        EDGES.due("26 release, the most mono pages take", Farms.job(100, 5, false, false), ReleasesEdgesTest::taken,
            "500 500-500 black 1000 colour 0 mono 500 colour 0 bill 1500");
        EDGES.due("26 release, the most colour pages take", Farms.job(37, 9, true, false), ReleasesEdgesTest::taken,
            "333 500-333 black 333 colour 999 mono 0 colour 333 bill 3330");
        EDGES.due("26 release, odd duplex copies take", Farms.job(5, 3, false, true), ReleasesEdgesTest::taken,
            "15 500-9 black 30 colour 0 mono 15 colour 0 bill 39");
        EDGES.due("26 release, all of 900 pages in two", Farms.job(100, 9, false, true), x -> {
            int pages = x.release(0, 0);
            x.setToner(0, false, 1000);
            return pages * 1000 + x.release(0, 0);
        }, 500400);
        EDGES.refused("26 release, twice", Edges.UNSUPPORTED, Farms.after(Farms.job(1, 1, false, false),
            x -> x.release(0, 0)), x -> x.release(0, 0));
        EDGES.refused("26 release, again with nothing added", Edges.UNSUPPORTED,
            Farms.after(Farms.job(100, 9, false, false), x -> x.release(0, 0)), x -> x.release(0, 0));
        EDGES.due("26 release, from the first sheet that has not come out", Farms.after(Farms.job(3, 2, false, true),
            x -> {
                x.setToner(0, false, 4);
                x.release(0, 0);
                x.setToner(0, false, 2);
            }), x -> x.release(0, 0), 1);
        EDGES.due("26 release, of one job leaves the others", Farms.after(Farms.with(1, 1, 3), x -> x.release(1, 0)),
            x -> "" + x.stateOf(0) + x.stateOf(1) + x.stateOf(2), "hdh");
    }

    /** What a release takes from what Farms.job has. */
    private static Object taken(SpoolFarm x) {
        int pages = x.release(0, 0);
        return pages + " 500-" + (500 - x.sheetsIn(0, 0)) + " black " + (1000 - x.tonerOf(0, false)) + " colour "
            + (1000 - x.tonerOf(0, true)) + " mono " + (999 - x.quotaOf(0, false)) + " colour "
            + (999 - x.quotaOf(0, true)) + " bill " + x.billOf(0);
    }

    // Terms, Releases: the tray with the lowest number that has the paper and at least one sheet
    private static void traysOfARelease() {
        String[][] rows = {
            {"aaa", "2 2 2", "1", "1 2 2"}, {"aaa", "2 2 2", "2", "0 2 2"}, {"aaa", "2 2 2", "3", "0 1 2"},
            {"aaa", "2 2 2", "4", "0 0 2"}, {"aaa", "2 2 2", "5", "0 0 1"}, {"aaa", "2 2 2", "6", "0 0 0"},
            {"aaa", "0 2 2", "1", "0 1 2"}, {"aaa", "0 0 2", "1", "0 0 1"}, {"aaa", "2 0 2", "3", "0 0 1"},
            {"baa", "2 2 2", "1", "2 1 2"}, {"baa", "2 2 2", "3", "2 0 1"}, {"bab", "2 2 2", "2", "2 0 2"},
            {"aba", "2 2 2", "3", "0 2 1"}, {"bba", "2 2 2", "1", "2 2 1"}, {"alb", "2 2 2", "2", "0 2 2"},
        };
        for (String[] row : rows) {
            EDGES.due("26 trays " + row[0] + " with " + row[1] + " after " + row[2], Farms.after(SpoolFarm::new, x -> {
                x.addUser(99, 99);
                x.addPrinter(false, 99, 9);
                for (int tray = 0; tray < 3; tray++) {
                    x.addTray(0, row[0].charAt(tray), row[1].charAt(2 * tray) - '0');
                }
                x.submit(0, row[2].charAt(0) - '0', 1, 'a', false, false);
                x.release(0, 0);
            }), x -> x.sheetsIn(0, 0) + " " + x.sheetsIn(0, 1) + " " + x.sheetsIn(0, 2), row[3]);
        }
        EDGES.due("26 trays: the printer beside keeps its sheets", Farms.after(Farms.with(1, 2, 9),
            x -> x.release(8, 1)), x -> x.sheetsIn(0, 0), 30);
    }

    // Promise 27
    private static void releaseAll() {
        EDGES.due("27 releaseAll, no jobs", Farms.with(2, 1, 0), x -> x.releaseAll(0, 0), 0);
        EDGES.due("27 releaseAll, of another user", Farms.with(2, 1, 3), x -> x.releaseAll(1, 0), 0);
        EDGES.due("27 releaseAll, another user's stay", Farms.with(2, 1, 3), x -> {
            x.releaseAll(1, 0);
            return x.stateOf(0);
        }, 'h');
        EDGES.due("27 releaseAll, the last user's only job", Farms.after(Farms.with(6, 1, 39),
            x -> x.submit(5, 1, 1, 'a', false, false)), x -> x.releaseAll(5, 0), 1);
        EDGES.due("27 releaseAll, 40 jobs", Farms.after(Farms.office(999, 1000, 9, 500), x -> {
            for (int job = 0; job < 40; job++) {
                x.submit(0, 2, 1, 'a', false, false);
            }
        }), x -> x.releaseAll(0, 0) * 100 + x.logSize(), 4040);
        EDGES.due("27 releaseAll, all but the 40th", Farms.after(Farms.office(999, 1000, 9, 79), x -> {
            for (int job = 0; job < 40; job++) {
                x.submit(0, 2, 1, 'a', false, false);
            }
        }), x -> x.releaseAll(0, 0) * 100 + x.logSize(), 3940);
        EDGES.due("27 releaseAll, all are done", Farms.done(40), x -> x.releaseAll(0, 0), 0);
        EDGES.due("27 releaseAll, done jobs add no entries", Farms.done(3), x -> {
            x.releaseAll(0, 0);
            return x.logSize();
        }, 3);
        EDGES.due("27 releaseAll, canceled jobs do not count", Farms.after(Farms.with(1, 1, 3), x -> x.cancel(1)),
            x -> x.releaseAll(0, 0), 2);
        EDGES.due("27 releaseAll, canceled jobs stay", Farms.after(Farms.with(1, 1, 3), x -> x.cancel(1)), x -> {
            x.releaseAll(0, 0);
            return x.stateOf(1);
        }, 'x');
        EDGES.due("27 releaseAll, a part that is done by it counts", Farms.after(Farms.job(4, 1, false, false), x -> {
            x.setToner(0, false, 2);
            x.release(0, 0);
            x.setToner(0, false, 6);
        }), x -> x.releaseAll(0, 0), 1);
        EDGES.due("27 releaseAll, a part that stays a part does not", Farms.after(Farms.job(4, 1, false, false), x -> {
            x.setToner(0, false, 2);
            x.release(0, 0);
            x.setToner(0, false, 5);
        }), x -> x.releaseAll(0, 0), 0);
        EDGES.due("27 releaseAll, a printer without trays", Farms.after(Farms.trays(0), x -> {
            x.addUser(9, 9);
            x.submit(0, 1, 1, 'a', false, false);
        }), x -> x.releaseAll(0, 0), 0);
    }

    /** Jobs of 3, 3, 1, 2 and 4 pages, the second in colour and the third of a3. */
    private static Supplier<SpoolFarm> several(int sheets) {
        return Farms.after(SpoolFarm::new, x -> {
            x.addUser(99, 99);
            x.addPrinter(false, 99, 9);
            x.addTray(0, 'a', sheets);
            x.submit(0, 3, 1, 'a', false, false);
            x.submit(0, 3, 1, 'a', true, false);
            x.submit(0, 1, 1, 'b', false, false);
            x.submit(0, 2, 1, 'a', false, false);
            x.submit(0, 4, 1, 'a', false, false);
        });
    }

    private static void releaseAllByNumbers() {
        String[] states = {"hhhhh", "phhhh", "phhhh", "dhhhh", "dhhph", "dhhdh", "dhhdp", "dhhdp", "dhhdp", "dhhdd"};
        int[] done = {0, 0, 0, 1, 1, 2, 2, 2, 2, 3};
        int[] entries = {0, 1, 1, 1, 2, 2, 3, 3, 3, 3};
        for (int sheets = 0; sheets < states.length; sheets++) {
            EDGES.due("27 releaseAll, by numbers on " + sheets + " sheets", several(sheets), x -> {
                x.releaseAll(0, 0);
                return "" + x.stateOf(0) + x.stateOf(1) + x.stateOf(2) + x.stateOf(3) + x.stateOf(4);
            }, states[sheets]);
            EDGES.due("27 releaseAll, done on " + sheets + " sheets", several(sheets), x -> x.releaseAll(0, 0),
                done[sheets]);
            EDGES.due("27 releaseAll, entries on " + sheets + " sheets", several(sheets), x -> {
                x.releaseAll(0, 0);
                return x.logSize();
            }, entries[sheets]);
        }
        Supplier<SpoolFarm> released = Farms.after(several(4), x -> x.releaseAll(0, 0));
        EDGES.due("27 releaseAll, the first entry", released, x -> x.logJob(0) * 100 + x.logPages(0), 3);
        EDGES.due("27 releaseAll, the last entry", released, x -> x.logJob(1) * 100 + x.logPages(1), 301);
        EDGES.refused("28 stopOf, releaseAll brought no sheet out", Edges.NO_ELEMENT, released, x -> x.stopOf(1));
        EDGES.due("28 stopOf, releaseAll brought a part out", released, x -> x.stopOf(3), 'p');
        EDGES.due("28 stopOf, releaseAll did it", released, x -> x.stopOf(0), 'd');
    }

    // Promise 28; the reasons themselves are above
    private static void stopOf() {
        Supplier<SpoolFarm> held = Farms.with(1, 1, 2);
        EDGES.refused("28 stopOf, held", Edges.NO_ELEMENT, held, x -> x.stopOf(0));
        EDGES.refused("28 stopOf, canceled", Edges.NO_ELEMENT, Farms.after(held, x -> x.cancel(0)), x -> x.stopOf(0));
        EDGES.refused("28 stopOf, only another job was released", Edges.NO_ELEMENT,
            Farms.after(held, x -> x.release(0, 0)), x -> x.stopOf(1));
        EDGES.refused("28 stopOf, its release was refused", Edges.NO_ELEMENT, Farms.after(held, x -> {
            x.setToner(0, false, 0);
            Refusals.of(() -> x.release(0, 0));
        }), x -> x.stopOf(0));
        EDGES.refused("28 stopOf, a release was only asked for", Edges.NO_ELEMENT, Farms.after(held, x -> {
            x.wouldPrint(0, 0);
            x.bestPrinter(0);
            x.queueAt(0, 0);
        }), x -> x.stopOf(0));
        Supplier<SpoolFarm> part = Farms.after(Farms.job(4, 1, false, false), x -> {
            x.setToner(0, false, 2);
            x.release(0, 0);
        });
        EDGES.due("28 stopOf, stays when more toner is there", Farms.after(part, x -> x.setToner(0, false, 9)),
            x -> x.stopOf(0), 't');
        EDGES.due("28 stopOf, stays after a refused release", Farms.after(part, x -> {
            x.addPrinter(false, 9, 9);
            Refusals.of(() -> x.release(0, 1));
        }), x -> x.stopOf(0), 't');
        EDGES.due("28 stopOf, stays after a releaseAll without a sheet", Farms.after(part, x -> {
            x.addPrinter(false, 9, 9);
            x.releaseAll(0, 1);
        }), x -> x.stopOf(0), 't');
        EDGES.due("28 stopOf, stays after cancel", Farms.after(part, x -> x.cancel(0)), x -> x.stopOf(0), 't');
        EDGES.due("28 stopOf, of the last release", Farms.after(part, x -> {
            x.addPrinter(false, 9, 9);
            x.addTray(1, 'a', 1);
            x.release(0, 1);
        }), x -> x.stopOf(0), 'p');
        EDGES.due("28 stopOf, of the release that ended it", Farms.after(part, x -> {
            x.setToner(0, false, 6);
            x.release(0, 0);
        }), x -> x.stopOf(0), 'd');
        EDGES.due("28 stopOf, stays done", Farms.after(Farms.done(1), x -> Refusals.of(() -> x.release(0, 0))),
            x -> x.stopOf(0), 'd');
    }

    /** Printers with these sheets, and a job of 5 pages. */
    private static Supplier<SpoolFarm> sheets(int... sheets) {
        return Farms.after(SpoolFarm::new, x -> {
            x.addUser(99, 99);
            for (int printer = 0; printer < sheets.length; printer++) {
                x.addPrinter(printer == 3, 99, 9);
                x.addTray(printer, 'a', sheets[printer]);
            }
            x.submit(0, 5, 1, 'a', false, false);
        });
    }

    // Promise 29
    private static void bestPrinter() {
        int[][] rows = {{1, 0, 0, 0, 0}, {0, 1, 0, 0, 1}, {0, 0, 1, 0, 2}, {0, 0, 0, 1, 3}, {3, 3, 3, 3, 0},
            {2, 3, 3, 3, 1}, {3, 4, 3, 4, 1}, {4, 3, 4, 3, 0}, {4, 4, 4, 5, 3}, {5, 500, 500, 500, 0},
            {4, 5, 6, 500, 1}, {0, 0, 2, 2, 2}, {3, 2, 1, 0, 0}, {0, 1, 2, 3, 3}};
        for (int[] row : rows) {
            EDGES.due("29 bestPrinter of " + row[0] + " " + row[1] + " " + row[2] + " " + row[3],
                sheets(row[0], row[1], row[2], row[3]), x -> x.bestPrinter(0), row[4]);
        }
        EDGES.due("29 bestPrinter of one", sheets(1), x -> x.bestPrinter(0), 0);
        EDGES.refused("29 bestPrinter, no printer", Edges.NO_ELEMENT, sheets(), x -> x.bestPrinter(0));
        EDGES.refused("29 bestPrinter, no page at one", Edges.NO_ELEMENT, sheets(0), x -> x.bestPrinter(0));
        EDGES.refused("29 bestPrinter, no page at four", Edges.NO_ELEMENT, sheets(0, 0, 0, 0), x -> x.bestPrinter(0));
        EDGES.refused("29 bestPrinter, done", Edges.NO_ELEMENT, Farms.after(sheets(5, 5), x -> x.release(0, 0)),
            x -> x.bestPrinter(0));
        EDGES.refused("29 bestPrinter, canceled", Edges.NO_ELEMENT, Farms.after(sheets(5, 5), x -> x.cancel(0)),
            x -> x.bestPrinter(0));
        EDGES.refused("29 bestPrinter, the quota", Edges.NO_ELEMENT, Farms.after(sheets(500, 500), x -> {
            x.submit(0, 99, 1, 'a', false, false);
            x.setToner(1, false, 198);
            x.release(1, 1);
        }), x -> x.bestPrinter(0));
        EDGES.due("29 bestPrinter, a colour job's", Farms.after(sheets(5, 5, 5, 1),
            x -> x.submit(0, 5, 1, 'a', true, false)), x -> x.bestPrinter(1), 3);
        EDGES.refused("29 bestPrinter, a colour job's at mono printers", Edges.NO_ELEMENT,
            Farms.after(sheets(5, 5, 5), x -> x.submit(0, 5, 1, 'a', true, false)), x -> x.bestPrinter(1));
        EDGES.due("29 bestPrinter, duplex, one printer short of toner", Farms.after(sheets(4, 3), x -> {
            x.submit(0, 5, 1, 'a', false, true);
            x.setToner(0, false, 9);
        }), x -> x.bestPrinter(1), 1);
        EDGES.due("29 bestPrinter, duplex, more pages of the second than sheets of the first",
            Farms.after(sheets(4, 3), x -> x.submit(0, 9, 1, 'a', false, true)), x -> x.bestPrinter(1), 0);
        EDGES.due("29 bestPrinter, nothing comes out", sheets(3, 4), x -> {
            x.bestPrinter(0);
            return x.pagesLeft(0) * 100 + x.sheetsIn(1, 0);
        }, 504);
    }

    // Promise 30
    private static void queueLength() {
        for (int jobs : new int[] {0, 1, 39, 40}) {
            EDGES.due("30 queueLength of " + jobs, Farms.with(1, 1, jobs), x -> x.queueLength(0), jobs);
            EDGES.due("30 queueLength, none of which a sheet comes out, of " + jobs,
                Farms.after(Farms.with(1, 1, jobs), x -> x.setToner(0, false, 1)), x -> x.queueLength(0), 0);
        }
        EDGES.due("30 queueLength, done", Farms.done(3), x -> x.queueLength(0), 0);
        EDGES.due("30 queueLength, of several users", Farms.after(Farms.with(6, 1, 0), x -> {
            for (int user = 0; user < 6; user++) {
                x.submit(user, 1, 1, 'a', false, false);
            }
        }), x -> x.queueLength(0), 6);
        EDGES.due("30 queueLength, a part is queued", Farms.after(Farms.job(4, 1, false, false), x -> {
            x.setToner(0, false, 2);
            x.release(0, 0);
            x.setToner(0, false, 2);
        }), x -> x.queueLength(0), 1);
        EDGES.due("30 queueLength, a part of which no sheet comes out", Farms.after(Farms.job(4, 1, false, false),
            x -> {
                x.setToner(0, false, 2);
                x.release(0, 0);
            }), x -> x.queueLength(0), 0);
    }

    // Promise 31
    private static void queueAt() {
        for (int length : new int[] {0, 1, 3, 39, 40}) {
            EDGES.numbers("31 queueAt, position", Edges.NO_ELEMENT, length,
                Farms.after(Farms.office(999, 1000, 9, 500), x -> {
                    for (int job = 0; job < length; job++) {
                        x.submit(0, 1, 1, 'a', false, false);
                    }
                }), (x, position) -> x.queueAt(0, position), position -> position);
        }
        EDGES.outOfRange("31 queueAt, of done jobs", 0, -1, Edges.NO_ELEMENT, Farms.done(3),
            (x, position) -> x.queueAt(0, position));
        EDGES.due("31 queueAt, nothing comes out", Farms.with(1, 1, 3), x -> {
            x.queueAt(0, 2);
            return x.pagesLeft(2) * 100 + x.sheetsIn(0, 0);
        }, 330);
    }

    private static void queueOfOthersAlone() {
        for (int length : new int[] {1, 3, 40}) {
            EDGES.numbers("31 queueAt, none would be done, position", Edges.NO_ELEMENT, length,
                Farms.after(Farms.office(999, 1000, 9, 1), x -> {
                    for (int job = 0; job < length; job++) {
                        x.submit(0, 2, 1, 'a', false, false);
                    }
                }), (x, position) -> x.queueAt(0, position), position -> position);
        }
    }

    /** The queue of printer 0 as a text. */
    private static Object queue(SpoolFarm x) {
        StringBuilder text = new StringBuilder();
        for (int position = 0; position < x.queueLength(0); position++) {
            text.append(x.queueAt(0, position)).append(' ');
        }
        return text.toString();
    }

    // Terms, Queues: first those that would be done, by their numbers, then the others
    private static void queueOrder() {
        int[] pages = {4, 2, 5, 1, 4, 3, 2};
        String[] due = {"", "3 0 1 2 4 5 6 ", "1 3 6 0 2 4 5 ", "1 3 5 6 0 2 4 ", "0 1 3 4 5 6 2 ", "0 1 2 3 4 5 6 "};
        for (int sheets = 0; sheets < due.length; sheets++) {
            int there = sheets;
            Supplier<SpoolFarm> maker = Farms.after(Farms.office(99, 99, 9, there), x -> {
                for (int count : pages) {
                    x.submit(0, count, 1, 'a', false, false);
                }
            });
            EDGES.due("31 the queue with " + sheets + " sheets", maker, ReleasesEdgesTest::queue, due[sheets]);
            String order = due[sheets].replace(" ", "");
            EDGES.numbers("31 queueAt, " + sheets + " sheets, position", Edges.NO_ELEMENT, order.length(), maker,
                (x, position) -> x.queueAt(0, position), position -> order.charAt(position) - '0');
        }
        Supplier<SpoolFarm> users = Farms.after(Farms.office(2, 99, 9, 99), x -> {
            x.addUser(9, 9);
            x.submit(0, 3, 1, 'a', false, false);
            x.submit(1, 3, 1, 'a', false, false);
            x.submit(0, 2, 1, 'a', true, true);
            x.submit(1, 9, 2, 'a', false, false);
            x.submit(0, 1, 1, 'b', false, false);
        });
        EDGES.due("31 the queue by the quotas of users", users, ReleasesEdgesTest::queue, "1 2 0 3 ");
        EDGES.due("31 the queue without a canceled job", Farms.after(users, x -> x.cancel(1)),
            ReleasesEdgesTest::queue, "2 0 3 ");
        EDGES.due("31 the queue without a done job", Farms.after(users, x -> x.release(2, 0)),
            ReleasesEdgesTest::queue, "1 0 3 ");
        EDGES.due("31 the queue after the rest is granted", Farms.after(users, x -> x.grant(0, false, 1)),
            ReleasesEdgesTest::queue, "0 1 2 3 ");
        EDGES.due("31 the queue, what is left would be done", Farms.after(users, x -> {
            x.release(0, 0);
            x.grant(0, false, 1);
        }), ReleasesEdgesTest::queue, "0 1 2 3 ");
        EDGES.due("31 the queue, not to change it by asking", users, x -> {
            queue(x);
            return queue(x);
        }, "1 2 0 3 ");
    }
}
