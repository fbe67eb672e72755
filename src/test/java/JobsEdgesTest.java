import java.util.function.Supplier;

/** Promises 17 to 23 at their edges, and the terms they rest on: jobs and staples. */
public final class JobsEdgesTest {
    private static final Edges EDGES = new Edges();

    public static void main(String[] args) {
        submit();
        submitRefused();
        setStapled();
        cancel();
        stateOf();
        pagesLeft();
        sheetsOut();
        stapledCopies();
        staplesOfThePrinter();
        copiesInSeveralReleases();
        setStapledBetweenReleases();
        EDGES.end("JobsEdgesTest");
    }

    // Promise 17
    private static void submit() {
        Supplier<SpoolFarm> two = Farms.with(3, 2, 2);
        EDGES.range("17 submit, pages", 1, 100, two,
            (x, pages) -> x.pagesLeft(x.submit(0, pages, 1, 'a', false, false)), pages -> pages);
        EDGES.range("17 submit, copies", 1, 9, two,
            (x, copies) -> x.pagesLeft(x.submit(0, 1, copies, 'a', false, false)), copies -> copies);
        EDGES.range("17 submit, pages of the most copies", 1, 100, two,
            (x, pages) -> x.pagesLeft(x.submit(0, pages, 9, 'a', true, true)), pages -> 9 * pages);
        EDGES.range("17 submit, copies of the most pages", 1, 9, two,
            (x, copies) -> x.pagesLeft(x.submit(0, 100, copies, 'a', true, true)), copies -> 100 * copies);
        for (char paper : new char[] {'a', 'b', 'l'}) {
            EDGES.due("17 submit, paper " + paper, two, x -> x.submit(0, 1, 1, paper, false, false), 2);
        }
        EDGES.noPapers("17 submit", two, (x, paper) -> x.submit(0, 1, 1, (char) paper, false, false));
        for (int there : new int[] {1, 3, 6}) {
            EDGES.numbers("17 submit, user", Edges.INDEX, there, Farms.with(there, 1, 0),
                (x, user) -> x.submit(user, 1, 1, 'a', false, false), user -> 0);
        }
        EDGES.outOfRange("17 submit, no user at all", 0, -1, Edges.INDEX, SpoolFarm::new,
            (x, user) -> x.submit(user, 1, 1, 'a', false, false));
        for (int job : new int[] {0, 1, 2, 9, 38, 39}) {
            EDGES.due("17 submit number " + job, Farms.with(2, 1, job), x -> x.submit(1, 1, 1, 'l', true, true), job);
        }
        EDGES.due("17 submit, it is held", two, x -> x.stateOf(x.submit(0, 1, 1, 'a', true, true)), 'h');
        EDGES.due("17 submit, it is not to be stapled", two,
            x -> x.setStapled(x.submit(0, 2, 1, 'a', true, true), true), false);
        EDGES.due("17 submit, no sheet has come out", two, x -> x.sheetsOut(x.submit(0, 2, 1, 'a', true, true)), 0);
        EDGES.due("17 submit, no copy is stapled", two, x -> x.stapledCopies(x.submit(0, 2, 1, 'a', true, true)), 0);
        EDGES.due("17 submit, a refused one takes no number", two, x -> {
            Refusals.of(() -> x.submit(0, 101, 1, 'a', false, false));
            return x.submit(0, 1, 1, 'a', false, false);
        }, 2);
        EDGES.due("17 submit, without quota or printers", Farms.after(SpoolFarm::new, x -> x.addUser(0, 0)),
            x -> x.submit(0, 100, 9, 'a', true, true), 0);
    }

    private static void submitRefused() {
        Supplier<SpoolFarm> full = Farms.with(3, 2, 40);
        EDGES.refused("17 submit, a 41st", Edges.STATE, full, x -> x.submit(0, 1, 1, 'a', false, false));
        EDGES.refused("17 submit, a 41st of another user", Edges.STATE, full, x -> x.submit(2, 100, 9, 'l', true, true));
        EDGES.refused("17 submit, a 41st though one is canceled", Edges.STATE, Farms.after(full, x -> x.cancel(39)),
            x -> x.submit(0, 1, 1, 'a', false, false));
        EDGES.refused("17 submit, a 41st though all are done", Edges.STATE, Farms.done(40),
            x -> x.submit(0, 1, 1, 'a', false, false));
        EDGES.due("17 submit, the 40th though all are done", Farms.done(39),
            x -> x.submit(0, 1, 1, 'a', false, false), 39);
        EDGES.outOfRange("17 submit, a 41st, pages first", 1, 100, Edges.ARGUMENT, full,
            (x, pages) -> x.submit(0, pages, 1, 'a', false, false));
        EDGES.outOfRange("17 submit, a 41st, copies first", 1, 9, Edges.ARGUMENT, full,
            (x, copies) -> x.submit(0, 1, copies, 'a', false, false));
        EDGES.noPapers("17 submit, a 41st, paper first", full,
            (x, paper) -> x.submit(0, 1, 1, (char) paper, false, false));
        EDGES.outOfRange("17 submit, a 41st, no user first", 0, 2, Edges.INDEX, full,
            (x, user) -> x.submit(user, 1, 1, 'a', false, false));
        EDGES.outOfRange("17 submit, no user before pages", 0, 2, Edges.INDEX, Farms.with(3, 1, 2),
            (x, user) -> x.submit(user, 101, 1, 'a', false, false));
        EDGES.outOfRange("17 submit, no user before copies", 0, 2, Edges.INDEX, Farms.with(3, 1, 2),
            (x, user) -> x.submit(user, 1, 0, 'a', false, false));
        EDGES.outOfRange("17 submit, no user before paper", 0, 2, Edges.INDEX, Farms.with(3, 1, 2),
            (x, user) -> x.submit(user, 1, 1, 'z', false, false));
    }

    // Promise 18
    private static void setStapled() {
        EDGES.jobs("18 setStapled, on", (x, job) -> x.setStapled(job, true), job -> false);
        EDGES.jobs("18 setStapled, off", (x, job) -> x.setStapled(job, false), job -> false);
        EDGES.due("18 setStapled, on before", Farms.stapledJob(2, 1, false), x -> x.setStapled(0, false), true);
        EDGES.due("18 setStapled, on twice", Farms.stapledJob(2, 1, false), x -> x.setStapled(0, true), true);
        EDGES.due("18 setStapled, off before", Farms.after(Farms.stapledJob(2, 1, false), x -> x.setStapled(0, false)),
            x -> x.setStapled(0, true), false);
        EDGES.due("18 setStapled, the job beside stays", Farms.with(1, 1, 3), x -> {
            x.setStapled(1, true);
            return x.setStapled(0, true) || x.setStapled(2, true);
        }, false);
        EDGES.due("18 setStapled, of a done job", Farms.after(Farms.done(1), x -> x.setStapled(0, true)),
            x -> x.setStapled(0, false), true);
        EDGES.due("18 setStapled, of a canceled job", Farms.after(Farms.with(1, 1, 1), x -> {
            x.cancel(0);
            x.setStapled(0, true);
        }), x -> x.setStapled(0, false), true);
        EDGES.due("18 setStapled, what came out before is not stapled", Farms.job(2, 1, false, false), x -> {
            x.release(0, 0);
            x.setStapled(0, true);
            return x.stapledCopies(0);
        }, 0);
        EDGES.due("18 setStapled, what is stapled stays so", Farms.stapledJob(2, 1, false), x -> {
            x.release(0, 0);
            x.setStapled(0, false);
            return x.stapledCopies(0);
        }, 1);
    }

    /** A job of 9 pages of which so many have come out. */
    private static Supplier<SpoolFarm> out(int pages) {
        return Farms.after(Farms.office(pages, 1000, 10, 500), x -> {
            x.submit(0, 9, 1, 'a', false, false);
            if (pages > 0) {
                x.release(0, 0);
            }
        });
    }

    // Promise 19
    private static void cancel() {
        EDGES.jobs("19 cancel", (x, job) -> x.cancel(job), job -> job + 1);
        EDGES.due("19 cancel, none has come out", out(0), x -> x.cancel(0), 9);
        EDGES.due("19 cancel, one page has come out", out(1), x -> x.cancel(0), 8);
        EDGES.due("19 cancel, one page has not", out(8), x -> x.cancel(0), 1);
        EDGES.refused("19 cancel, all have come out", Edges.STATE, out(9), x -> x.cancel(0));
        EDGES.refused("19 cancel, canceled before", Edges.STATE, Farms.after(out(0), x -> x.cancel(0)), x -> x.cancel(0));
        EDGES.refused("19 cancel, a part canceled before", Edges.STATE, Farms.after(out(8), x -> x.cancel(0)),
            x -> x.cancel(0));
        EDGES.due("19 cancel, the least", Farms.job(1, 1, false, false), x -> x.cancel(0), 1);
        EDGES.due("19 cancel, the most", Farms.job(100, 9, false, false), x -> x.cancel(0), 900);
        Supplier<SpoolFarm> canceled = Farms.after(out(4), x -> x.cancel(0));
        EDGES.due("19 cancel, what has come out stays billed", canceled, x -> x.billOf(0), 12L);
        EDGES.due("19 cancel, and billed by the log", canceled, x -> x.billByLog(0), 12L);
        EDGES.due("19 cancel, its pages stay", canceled, x -> x.pagesOf(0), 4);
        EDGES.due("19 cancel, its entry stays", canceled, x -> x.logSize(), 1);
        EDGES.due("19 cancel, its stop stays", canceled, x -> x.stopOf(0), 'q');
        EDGES.due("19 cancel, the job beside is held", Farms.after(Farms.with(1, 1, 2), x -> x.cancel(0)),
            x -> x.stateOf(1), 'h');
        EDGES.due("19 cancel, it leaves the queue", Farms.after(Farms.with(1, 1, 2), x -> x.cancel(0)),
            x -> x.queueLength(0), 1);
    }

    // Promise 20
    private static void stateOf() {
        EDGES.jobs("20 stateOf", (x, job) -> x.stateOf(job), job -> 'h');
        EDGES.due("20 stateOf, no page", out(0), x -> x.stateOf(0), 'h');
        EDGES.due("20 stateOf, the first page", out(1), x -> x.stateOf(0), 'p');
        EDGES.due("20 stateOf, all but the last", out(8), x -> x.stateOf(0), 'p');
        EDGES.due("20 stateOf, all pages", out(9), x -> x.stateOf(0), 'd');
        EDGES.due("20 stateOf, no page and canceled", Farms.after(out(0), x -> x.cancel(0)), x -> x.stateOf(0), 'x');
        EDGES.due("20 stateOf, a part and canceled", Farms.after(out(8), x -> x.cancel(0)), x -> x.stateOf(0), 'x');
        EDGES.due("20 stateOf, its release refused", out(0), x -> {
            Refusals.of(() -> x.release(0, 0));
            return x.stateOf(0);
        }, 'h');
        EDGES.due("20 stateOf, releaseAll brought nothing out", out(0), x -> {
            x.releaseAll(0, 0);
            return x.stateOf(0);
        }, 'h');
        for (int pages = 4; pages <= 12; pages += 4) {
            EDGES.due("20 stateOf, whole copies, " + pages + " pages of 12", begun(pages), x -> x.stateOf(0),
                pages == 12 ? 'd' : 'p');
        }
        EDGES.due("20 stateOf, the only page", Farms.done(1), x -> x.stateOf(0), 'd');
        EDGES.due("20 stateOf, a refused cancel", Farms.done(1), x -> {
            Refusals.of(() -> x.cancel(0));
            return x.stateOf(0);
        }, 'd');
    }

    // Promise 21
    private static void pagesLeft() {
        EDGES.jobs("21 pagesLeft", (x, job) -> x.pagesLeft(job), job -> job + 1);
        EDGES.due("21 pagesLeft, no page out", out(0), x -> x.pagesLeft(0), 9);
        EDGES.due("21 pagesLeft, the first page", out(1), x -> x.pagesLeft(0), 8);
        EDGES.due("21 pagesLeft, all but the last", out(8), x -> x.pagesLeft(0), 1);
        EDGES.due("21 pagesLeft, all pages", out(9), x -> x.pagesLeft(0), 0);
        EDGES.due("21 pagesLeft, no page and canceled", Farms.after(out(0), x -> x.cancel(0)), x -> x.pagesLeft(0), 9);
        EDGES.due("21 pagesLeft, a part and canceled", Farms.after(out(8), x -> x.cancel(0)), x -> x.pagesLeft(0), 1);
        EDGES.due("21 pagesLeft, the most", Farms.job(100, 9, false, false), x -> x.pagesLeft(0), 900);
        EDGES.due("21 pagesLeft, the least", Farms.job(1, 1, false, false), x -> x.pagesLeft(0), 1);
        EDGES.due("21 pagesLeft, the same when duplex", Farms.job(99, 9, false, true), x -> x.pagesLeft(0), 891);
    }

    private static Object sheetsAfterRelease(SpoolFarm farm) {
        farm.release(0, 0);
        return farm.sheetsOut(0);
    }

    // Promise 22, and Terms, Jobs: sheets of one or two pages
    private static void sheetsOut() {
        EDGES.jobs("22 sheetsOut", (x, job) -> x.sheetsOut(job), job -> 0);
        int[][] simplex = {{1, 1, 1}, {2, 1, 2}, {3, 1, 3}, {1, 9, 9}, {2, 9, 18}, {100, 1, 100}, {55, 9, 495}};
        for (int[] row : simplex) {
            EDGES.due("22 sheetsOut, " + row[1] + " copies of " + row[0], Farms.job(row[0], row[1], false, false),
                JobsEdgesTest::sheetsAfterRelease, row[2]);
        }
        int[][] duplex = {{1, 1, 1}, {2, 1, 1}, {3, 1, 2}, {4, 1, 2}, {5, 1, 3}, {1, 9, 9}, {2, 9, 9}, {3, 9, 18},
            {99, 1, 50}, {100, 1, 50}, {99, 5, 250}, {100, 5, 250}};
        for (int[] row : duplex) {
            EDGES.due("22 sheetsOut, duplex, " + row[1] + " copies of " + row[0],
                Farms.job(row[0], row[1], false, true), JobsEdgesTest::sheetsAfterRelease, row[2]);
        }
        EDGES.due("22 sheetsOut, one of a duplex copy of 3", Farms.after(Farms.job(3, 1, false, true),
            x -> x.setToner(0, false, 4)), JobsEdgesTest::sheetsAfterRelease, 1);
        EDGES.due("22 sheetsOut, none is left of a copy of 3, a page short", Farms.after(Farms.job(3, 1, false, true),
            x -> x.setToner(0, false, 5)), JobsEdgesTest::sheetsAfterRelease, 1);
        EDGES.due("22 sheetsOut, the last of a duplex copy of 3", Farms.after(Farms.job(3, 1, false, true),
            x -> x.setToner(0, false, 6)), JobsEdgesTest::sheetsAfterRelease, 2);
        EDGES.due("22 sheetsOut, the next copy's first sheet has two pages", Farms.after(Farms.job(3, 2, false, true),
            x -> x.setToner(0, false, 9)), JobsEdgesTest::sheetsAfterRelease, 2);
        EDGES.due("22 sheetsOut, the next copy's first sheet", Farms.after(Farms.job(3, 2, false, true),
            x -> x.setToner(0, false, 10)), JobsEdgesTest::sheetsAfterRelease, 3);
        EDGES.due("22 sheetsOut, of two releases", Farms.after(Farms.job(3, 2, false, true), x -> {
            x.setToner(0, false, 4);
            x.release(0, 0);
            x.setToner(0, false, 7);
        }), JobsEdgesTest::sheetsAfterRelease, 3);
        EDGES.due("22 sheetsOut, of a canceled job", Farms.after(out(4), x -> x.cancel(0)), x -> x.sheetsOut(0), 4);
        EDGES.due("22 sheetsOut, the most", Farms.job(100, 9, false, false), x -> {
            x.release(0, 0);
            x.load(0, 0, 500);
            x.setToner(0, false, 1000);
            x.release(0, 0);
            return x.sheetsOut(0);
        }, 900);
    }

    private static Object stapledAfterRelease(SpoolFarm farm) {
        farm.release(0, 0);
        return farm.stapledCopies(0);
    }

    // Promise 23, and Terms, Staples: a copy has at least two sheets
    private static void stapledCopies() {
        EDGES.jobs("23 stapledCopies", (x, job) -> x.stapledCopies(job), job -> 0);
        int[][] simplex = {{1, 1, 0}, {2, 1, 1}, {1, 9, 0}, {2, 9, 9}, {3, 9, 9}, {100, 5, 5}};
        for (int[] row : simplex) {
            EDGES.due("23 stapledCopies, " + row[1] + " copies of " + row[0],
                Farms.stapledJob(row[0], row[1], false), JobsEdgesTest::stapledAfterRelease, row[2]);
        }
        int[][] duplex = {{1, 1, 0}, {2, 1, 0}, {3, 1, 1}, {4, 1, 1}, {1, 9, 0}, {2, 9, 0}, {3, 9, 9}, {4, 9, 9}};
        for (int[] row : duplex) {
            EDGES.due("23 stapledCopies, duplex, " + row[1] + " copies of " + row[0],
                Farms.stapledJob(row[0], row[1], true), JobsEdgesTest::stapledAfterRelease, row[2]);
        }
        EDGES.due("23 stapledCopies, not to be stapled", Farms.job(3, 2, false, false),
            JobsEdgesTest::stapledAfterRelease, 0);
        EDGES.due("23 stapledCopies, not to be stapled, no staple is taken", Farms.job(3, 2, false, false), x -> {
            x.release(0, 0);
            return x.staplesIn(0);
        }, 100);
        EDGES.due("23 stapledCopies, of a colour job", Farms.after(Farms.job(2, 2, true, false),
            x -> x.setStapled(0, true)), JobsEdgesTest::stapledAfterRelease, 2);
        EDGES.due("23 stapledCopies, of a canceled job", Farms.after(Farms.stapledJob(2, 2, false), x -> {
            x.setToner(0, false, 4);
            x.release(0, 0);
            x.cancel(0);
        }), x -> x.stapledCopies(0), 1);
        EDGES.due("23 stapledCopies, by releaseAll", Farms.stapledJob(2, 2, false), x -> {
            x.releaseAll(0, 0);
            return x.stapledCopies(0);
        }, 2);
    }

    // Terms, Staples: the printer has a staple
    private static void staplesOfThePrinter() {
        int[][] rows = {{0, 0, 0}, {1, 1, 0}, {2, 2, 0}, {3, 3, 0}, {4, 3, 1}, {100, 3, 97}};
        for (int[] row : rows) {
            Supplier<SpoolFarm> maker = Farms.after(Farms.stapledJob(2, 3, false), x -> x.setStaples(0, row[0]));
            EDGES.due("23 staples: 3 copies by " + row[0], maker, JobsEdgesTest::stapledAfterRelease, row[1]);
            EDGES.due("23 staples: left by 3 copies of " + row[0], maker, x -> {
                x.release(0, 0);
                return x.staplesIn(0);
            }, row[2]);
            EDGES.due("23 staples: all pages come out with " + row[0], maker, x -> x.release(0, 0), 6);
            EDGES.due("23 staples: the job is done with " + row[0], maker, x -> {
                x.release(0, 0);
                return x.stopOf(0);
            }, 'd');
        }
        EDGES.due("23 staples: none was there, some are now", Farms.after(Farms.stapledJob(2, 3, false), x -> {
            x.setStaples(0, 0);
            x.setToner(0, false, 4);
            x.release(0, 0);
            x.setToner(0, false, 100);
            x.setStaples(0, 100);
        }), JobsEdgesTest::stapledAfterRelease, 2);
        Supplier<SpoolFarm> two = Farms.after(Farms.stapledJob(2, 3, false), x -> {
            x.addPrinter(false, 100, 1);
            x.addTray(1, 'a', 100);
            x.release(0, 1);
        });
        EDGES.due("23 staples: of the printer where it comes out", two, x -> x.staplesIn(1), 0);
        EDGES.due("23 staples: not of the one beside", two, x -> x.staplesIn(0), 100);
        EDGES.due("23 staples: no more than it has", two, x -> x.stapledCopies(0), 1);
        EDGES.due("23 staples: one of the least copies takes none", Farms.stapledJob(1, 9, false), x -> {
            x.release(0, 0);
            return x.staplesIn(0);
        }, 100);
    }

    /** 3 copies of 4 pages to be stapled, after a release of so many pages. */
    private static Supplier<SpoolFarm> begun(int pages) {
        return Farms.after(Farms.stapledJob(4, 3, false), x -> {
            x.setToner(0, false, 2 * pages);
            x.release(0, 0);
            x.setToner(0, false, 1000);
        });
    }

    // Terms, Staples: all of its sheets came out in this release
    private static void copiesInSeveralReleases() {
        int[] atFirst = {0, 0, 0, 0, 1, 1, 1, 1, 2, 2, 2, 2};
        int[] atLast = {0, 2, 2, 2, 3, 2, 2, 2, 3, 2, 2, 2};
        for (int pages = 1; pages < 12; pages++) {
            Supplier<SpoolFarm> maker = begun(pages);
            int left = 100 - atLast[pages];
            EDGES.due("23 copies whole after " + pages + " pages", maker, x -> x.stapledCopies(0), atFirst[pages]);
            EDGES.due("23 copies whole in the end, after " + pages, maker, JobsEdgesTest::stapledAfterRelease,
                atLast[pages]);
            EDGES.due("23 staples left in the end, after " + pages, maker, x -> {
                x.release(0, 0);
                return x.staplesIn(0);
            }, left);
        }
        EDGES.due("23 a copy begun at another printer", Farms.after(begun(2), x -> {
            x.addPrinter(false, 4, 9);
            x.addTray(1, 'a', 2);
            x.release(0, 1);
        }), x -> x.stapledCopies(0) * 100 + x.staplesIn(1), 9);
        EDGES.due("23 a copy whole at another printer", Farms.after(begun(4), x -> {
            x.addPrinter(false, 8, 9);
            x.addTray(1, 'a', 4);
            x.release(0, 1);
        }), x -> x.stapledCopies(0) * 100 + x.staplesIn(1), 208);
        EDGES.due("23 sheets of two trays in one release", Farms.after(Farms.stapledJob(4, 1, false), x -> {
            x.addPrinter(false, 100, 9);
            x.addTray(1, 'a', 3);
            x.addTray(1, 'a', 1);
            x.release(0, 1);
        }), x -> x.stapledCopies(0), 1);
        EDGES.due("23 the last sheet alone in its release", Farms.after(Farms.stapledJob(3, 1, true), x -> {
            x.setToner(0, false, 4);
            x.release(0, 0);
            x.setToner(0, false, 2);
        }), JobsEdgesTest::stapledAfterRelease, 0);
        EDGES.due("23 three releases of a copy", Farms.after(begun(1), x -> {
            x.setToner(0, false, 2);
            x.release(0, 0);
            x.setToner(0, false, 4);
        }), JobsEdgesTest::stapledAfterRelease, 0);
        EDGES.due("23 three releases of a copy, then a whole one", Farms.after(begun(1), x -> {
            x.setToner(0, false, 2);
            x.release(0, 0);
            x.setToner(0, false, 12);
        }), JobsEdgesTest::stapledAfterRelease, 1);
        EDGES.due("23 a copy of one sheet, after another job's release ended in the midst of a copy",
            Farms.after(begun(3), x -> {
                x.submit(0, 1, 9, 'a', false, false);
                x.setStapled(1, true);
                x.setToner(0, false, 2);
                x.release(0, 0);
                x.setToner(0, false, 6);
                x.release(0, 0);
                x.setToner(0, false, 18);
            }), x -> x.release(1, 0) * 100 + x.stapledCopies(1), 900);
        EDGES.due("23 a whole copy, after another job's release ended in the midst of a copy",
            Farms.after(begun(3), x -> {
                x.submit(0, 2, 9, 'a', false, false);
                x.setStapled(1, true);
            }), x -> x.release(1, 0) * 100 + x.stapledCopies(1), 1809);
        EDGES.due("23 a refused release between begins nothing", Farms.after(begun(2), x -> {
            x.setToner(0, false, 0);
            Refusals.of(() -> x.release(0, 0));
            x.setToner(0, false, 4);
        }), JobsEdgesTest::stapledAfterRelease, 0);
    }

    private static void setStapledBetweenReleases() {
        EDGES.due("23 to be stapled only in the midst of a copy", Farms.after(Farms.job(4, 3, false, false), x -> {
            x.setToner(0, false, 4);
            x.release(0, 0);
            x.setToner(0, false, 1000);
            x.setStapled(0, true);
        }), JobsEdgesTest::stapledAfterRelease, 2);
        EDGES.due("23 to be stapled only after a copy", Farms.after(Farms.job(4, 3, false, false), x -> {
            x.setToner(0, false, 8);
            x.release(0, 0);
            x.setToner(0, false, 1000);
            x.setStapled(0, true);
        }), JobsEdgesTest::stapledAfterRelease, 2);
        EDGES.due("23 not to be stapled after a copy", Farms.after(begun(4), x -> x.setStapled(0, false)),
            JobsEdgesTest::stapledAfterRelease, 1);
        EDGES.due("23 off and on before a release", Farms.after(begun(4), x -> {
            x.setStapled(0, false);
            x.setStapled(0, true);
        }), JobsEdgesTest::stapledAfterRelease, 3);
    }
}
