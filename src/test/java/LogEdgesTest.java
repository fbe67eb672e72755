import java.lang.reflect.Array;
import java.lang.reflect.Field;
import java.util.function.Supplier;

/** Promises 32 to 45 at their edges: log, bills and line. */
public final class LogEdgesTest {
    private static final Edges EDGES = new Edges();

    public static void main(String[] args) throws Exception {
        logSize();
        entries();
        pagesOfAndByLog();
        billOfAndByLog();
        meanPages();
        colourShare();
        isConsistent();
        isInconsistent();
        writeJob();
        writeJobParts();
        lineAt();
        EDGES.end("LogEdgesTest");
    }

    // Promise 32
    private static void logSize() {
        EDGES.due("32 logSize, new", SpoolFarm::new, x -> x.logSize(), 0);
        EDGES.due("32 logSize, held jobs", Farms.with(1, 1, 3), x -> x.logSize(), 0);
        for (int entries : new int[] {1, 2, 40, 245}) {
            EDGES.due("32 logSize of " + entries, Farms.logged(entries), x -> x.logSize(), entries);
        }
        EDGES.due("32 logSize, a release of the least", Farms.job(1, 1, false, false), x -> {
            x.release(0, 0);
            return x.logSize();
        }, 1);
        EDGES.due("32 logSize, a release of many sheets", Farms.job(100, 5, false, false), x -> {
            x.release(0, 0);
            return x.logSize();
        }, 1);
        EDGES.due("32 logSize, a refused release", Farms.done(1), x -> {
            Refusals.of(() -> x.release(0, 0));
            return x.logSize();
        }, 1);
        EDGES.due("32 logSize, releaseAll without a sheet", Farms.after(Farms.with(1, 1, 3),
            x -> x.setToner(0, false, 1)), x -> {
                x.releaseAll(0, 0);
                return x.logSize();
            }, 0);
        EDGES.due("32 logSize, releaseAll of three", Farms.with(1, 1, 3), x -> {
            x.releaseAll(0, 0);
            return x.logSize();
        }, 3);
        EDGES.due("32 logSize, what only looks adds none", Farms.with(1, 1, 3), x -> {
            x.wouldPrint(0, 0);
            x.bestPrinter(0);
            x.queueAt(0, 0);
            x.cancel(0);
            return x.logSize();
        }, 0);
    }

    // Promises 33 to 36
    private static void entries() {
        EDGES.entries("33 logJob", (x, entry) -> x.logJob(entry), entry -> 0);
        EDGES.entries("34 logPrinter", (x, entry) -> x.logPrinter(entry), entry -> entry % 2);
        EDGES.entries("35 logPages", (x, entry) -> x.logPages(entry), entry -> 1 + entry % 3);
        EDGES.entries("36 logSheets", (x, entry) -> x.logSheets(entry), entry -> 1 + entry % 3);
        EDGES.numbers("33 logJob, of all jobs", Edges.INDEX, 40, Farms.done(40), (x, entry) -> x.logJob(entry),
            entry -> entry);
        Supplier<SpoolFarm> two = Farms.after(Farms.job(5, 2, false, true), x -> {
            x.submit(0, 1, 1, 'a', true, true);
            x.release(1, 0);
            x.release(0, 0);
        });
        EDGES.due("33 logJob, in the order of releases, first", two, x -> x.logJob(0), 1);
        EDGES.due("33 logJob, in the order of releases, last", two, x -> x.logJob(1), 0);
        EDGES.due("35 logPages, the least", two, x -> x.logPages(0), 1);
        EDGES.due("36 logSheets, the least", two, x -> x.logSheets(0), 1);
        EDGES.due("35 logPages, duplex", two, x -> x.logPages(1), 10);
        EDGES.due("36 logSheets, duplex, odd copies", two, x -> x.logSheets(1), 6);
        Supplier<SpoolFarm> most = Farms.after(Farms.job(100, 5, false, false), x -> x.release(0, 0));
        EDGES.due("35 logPages, the most toner", most, x -> x.logPages(0), 500);
        EDGES.due("36 logSheets, the most sheets of a tray", most, x -> x.logSheets(0), 500);
        Supplier<SpoolFarm> last = Farms.after(Farms.with(1, 4, 3), x -> x.release(2, 3));
        EDGES.due("34 logPrinter, the last printer", last, x -> x.logPrinter(0), 3);
        EDGES.due("33 logJob, the last job", last, x -> x.logJob(0), 2);
        EDGES.due("33 logJob, stays after cancel", Farms.after(Farms.logged(1), x -> x.cancel(0)), x -> x.logJob(0), 0);
        Supplier<SpoolFarm> many = Farms.logged(245);
        EDGES.due("34 logPrinter, the last of many", many, x -> x.logPrinter(244), 0);
        EDGES.due("35 logPages, the last of many", many, x -> x.logPages(244), 2);
        EDGES.due("36 logSheets, the last but one of many", many, x -> x.logSheets(243), 1);
    }

    /** User u has u pages of its own out, by a job of mono pages. */
    private static Supplier<SpoolFarm> printed(int users) {
        return Farms.after(Farms.with(users, 1, 0), x -> {
            for (int user = 1; user < users; user++) {
                x.release(x.submit(user, user, 1, 'a', false, false), 0);
            }
        });
    }

    // Promises 37 and 38
    private static void pagesOfAndByLog() {
        EDGES.users("37 pagesOf, none", (x, user) -> x.pagesOf(user), user -> 0);
        EDGES.users("38 pagesByLog, none", (x, user) -> x.pagesByLog(user), user -> 0);
        for (int users : new int[] {1, 2, 6}) {
            EDGES.numbers("37 pagesOf, user", Edges.INDEX, users, printed(users), (x, user) -> x.pagesOf(user),
                user -> user);
            EDGES.numbers("38 pagesByLog, user", Edges.INDEX, users, printed(users), (x, user) -> x.pagesByLog(user),
                user -> user);
        }
        Supplier<SpoolFarm> most = Farms.after(Farms.job(100, 9, false, true), x -> {
            x.release(0, 0);
            x.setToner(0, false, 1000);
            x.release(0, 0);
        });
        EDGES.due("37 pagesOf, two releases of the most pages", most, x -> x.pagesOf(0), 900);
        EDGES.due("38 pagesByLog, two releases of the most pages", most, x -> x.pagesByLog(0), 900);
        Supplier<SpoolFarm> both = Farms.after(Farms.job(2, 1, false, true), x -> {
            x.submit(0, 3, 1, 'a', true, true);
            x.releaseAll(0, 0);
        });
        EDGES.due("37 pagesOf, mono and colour", both, x -> x.pagesOf(0), 5);
        EDGES.due("38 pagesByLog, mono and colour", both, x -> x.pagesByLog(0), 5);
        Supplier<SpoolFarm> canceled = Farms.after(Farms.logged(3), x -> x.cancel(0));
        EDGES.due("37 pagesOf, stays after cancel", canceled, x -> x.pagesOf(0), 6);
        EDGES.due("38 pagesByLog, stays after cancel", canceled, x -> x.pagesByLog(0), 6);
        EDGES.due("37 pagesOf, many entries", Farms.logged(245), x -> x.pagesOf(0), 81 * 6 + 3);
        EDGES.due("38 pagesByLog, many entries", Farms.logged(245), x -> x.pagesByLog(0), 81 * 6 + 3);
    }

    // Promises 39 and 40
    private static void billOfAndByLog() {
        EDGES.users("39 billOf, none", (x, user) -> x.billOf(user), user -> 0L);
        EDGES.users("40 billByLog, none", (x, user) -> x.billByLog(user), user -> 0L);
        for (int users : new int[] {1, 2, 6}) {
            EDGES.numbers("39 billOf, user", Edges.INDEX, users, printed(users), (x, user) -> x.billOf(user),
                user -> 3L * user);
            EDGES.numbers("40 billByLog, user", Edges.INDEX, users, printed(users), (x, user) -> x.billByLog(user),
                user -> 3L * user);
        }
        bill("the dearest", Farms.after(Farms.job(37, 9, true, false), x -> {
            x.setPrices(99, 99, 99);
            x.release(0, 0);
        }), 333 * 198L);
        bill("for nothing", Farms.after(Farms.job(37, 9, true, false), x -> {
            x.setPrices(0, 0, 0);
            x.release(0, 0);
        }), 0L);
        bill("no colour price for mono pages", Farms.after(Farms.job(5, 1, false, true), x -> {
            x.setPrices(1, 99, 0);
            x.release(0, 0);
        }), 5L);
        bill("no mono price for colour pages", Farms.after(Farms.job(5, 1, true, true), x -> {
            x.setPrices(99, 1, 0);
            x.release(0, 0);
        }), 5L);
        bill("sheets alone, the last of one page", Farms.after(Farms.job(5, 2, true, true), x -> {
            x.setPrices(0, 0, 1);
            x.release(0, 0);
        }), 6L);
        bill("a part by the prices before, the rest by those after", Farms.after(Farms.job(3, 1, false, true), x -> {
            x.setToner(0, false, 4);
            x.release(0, 0);
            x.setPrices(10, 0, 20);
            x.setToner(0, false, 2);
            x.release(0, 0);
        }), 2 * 2 + 1 + 10 + 20L);
        bill("prices set after all came out", Farms.after(Farms.job(3, 1, false, true), x -> {
            x.release(0, 0);
            x.setPrices(99, 99, 99);
        }), 8L);
        bill("refused prices", Farms.after(Farms.job(3, 1, true, true), x -> {
            Refusals.of(() -> x.setPrices(5, 6, 100));
            x.release(0, 0);
        }), 29L);
        bill("stays after cancel", Farms.after(Farms.logged(3), x -> x.cancel(0)), 18L);
        bill("of a refused release", Farms.after(Farms.done(1), x -> Refusals.of(() -> x.release(0, 0))), 3L);
        bill("of stapled copies, staples cost nothing", Farms.after(Farms.stapledJob(3, 2, false),
            x -> x.release(0, 0)), 18L);
    }

    private static void bill(String row, Supplier<SpoolFarm> maker, long due) {
        EDGES.due("39 billOf, " + row, maker, x -> x.billOf(0), due);
        EDGES.due("40 billByLog, " + row, maker, x -> x.billByLog(0), due);
    }

    // Promise 41
    private static void meanPages() {
        EDGES.refused("41 meanPages, new", Edges.ARITHMETIC, SpoolFarm::new, x -> x.meanPages());
        EDGES.refused("41 meanPages, held jobs", Edges.ARITHMETIC, Farms.with(1, 1, 3), x -> x.meanPages());
        EDGES.refused("41 meanPages, a refused release", Edges.ARITHMETIC, Farms.after(Farms.with(1, 1, 1), x -> {
            x.cancel(0);
            Refusals.of(() -> x.release(0, 0));
        }), x -> x.meanPages());
        EDGES.refused("41 meanPages, releaseAll without a sheet", Edges.ARITHMETIC, Farms.after(Farms.with(1, 1, 1), x -> {
            x.cancel(0);
            x.releaseAll(0, 0);
        }), x -> x.meanPages());
        EDGES.due("41 meanPages, one entry of the least", Farms.done(1), x -> x.meanPages(), 1.0);
        EDGES.due("41 meanPages, of two", Farms.logged(2), x -> x.meanPages(), 1.5);
        EDGES.due("41 meanPages, of four", Farms.logged(4), x -> x.meanPages(), 7.0 / 4.0);
        EDGES.due("41 meanPages, of seven", Farms.logged(7), x -> x.meanPages(), 13.0 / 7.0);
        EDGES.due("41 meanPages, is a double", Farms.logged(7), x -> x.meanPages() == (double) (13.0f / 7.0f), false);
        EDGES.due("41 meanPages, of many", Farms.logged(245), x -> x.meanPages(), 489.0 / 245.0);
        EDGES.due("41 meanPages, the most of one", Farms.after(Farms.job(100, 5, false, false), x -> x.release(0, 0)),
            x -> x.meanPages(), 500.0);
        EDGES.due("41 meanPages, pages and not sheets", Farms.after(Farms.job(5, 1, false, true), x -> x.release(0, 0)),
            x -> x.meanPages(), 5.0);
        EDGES.due("41 meanPages, by entries and not by jobs", Farms.after(Farms.job(3, 1, false, false), x -> {
            x.setToner(0, false, 2);
            x.release(0, 0);
            x.setToner(0, false, 4);
            x.release(0, 0);
        }), x -> x.meanPages(), 1.5);
    }

    // Promise 42
    private static void colourShare() {
        EDGES.refused("42 colourShare, new", Edges.ARITHMETIC, SpoolFarm::new, x -> x.colourShare());
        EDGES.refused("42 colourShare, held jobs", Edges.ARITHMETIC, Farms.job(9, 9, true, false), x -> x.colourShare());
        EDGES.refused("42 colourShare, a refused release", Edges.ARITHMETIC, Farms.after(Farms.with(1, 1, 1), x -> {
            x.cancel(0);
            Refusals.of(() -> x.release(0, 0));
        }), x -> x.colourShare());
        EDGES.due("42 colourShare, one mono page", Farms.done(1), x -> x.colourShare(), 0.0f);
        EDGES.due("42 colourShare, one colour page", colour(0, 1), x -> x.colourShare(), 1.0f);
        EDGES.due("42 colourShare, a half", colour(1, 1), x -> x.colourShare(), 0.5f);
        EDGES.due("42 colourShare, a third", colour(2, 1), x -> x.colourShare(), 1.0f / 3.0f);
        EDGES.due("42 colourShare, two thirds", colour(1, 2), x -> x.colourShare(), 2.0f / 3.0f);
        EDGES.due("42 colourShare, the least", colour(99, 1), x -> x.colourShare(), 1.0f / 100.0f);
        EDGES.due("42 colourShare, almost all", colour(1, 99), x -> x.colourShare(), 99.0f / 100.0f);
        EDGES.due("42 colourShare, pages and not sheets", Farms.after(Farms.job(2, 1, true, true), x -> {
            x.submit(0, 2, 1, 'a', false, false);
            x.releaseAll(0, 0);
        }), x -> x.colourShare(), 0.5f);
        EDGES.due("42 colourShare, pages that have come out", Farms.after(Farms.job(100, 9, true, false), x -> {
            x.setToner(0, true, 3);
            x.release(0, 0);
            x.release(x.submit(0, 3, 1, 'a', false, false), 0);
        }), x -> x.colourShare(), 0.25f);
        EDGES.due("42 colourShare, a canceled job's pages stay", Farms.after(Farms.job(100, 9, true, false), x -> {
            x.setToner(0, true, 3);
            x.release(0, 0);
            x.cancel(0);
            x.release(x.submit(0, 3, 1, 'a', false, false), 0);
        }), x -> x.colourShare(), 0.25f);
    }

    /** So many mono pages and colour pages have come out. */
    private static Supplier<SpoolFarm> colour(int mono, int colour) {
        return Farms.after(Farms.office(999, 1000, 9, 500), x -> {
            if (mono > 0) {
                x.submit(0, mono, 1, 'a', false, false);
            }
            x.submit(0, colour, 1, 'a', true, false);
            x.releaseAll(0, 0);
        });
    }

    // Promise 43: it is true after whatever calls
    private static void isConsistent() {
        EDGES.due("43 isConsistent, new", SpoolFarm::new, x -> x.isConsistent(), true);
        EDGES.due("43 isConsistent, all held", Farms.with(6, 4, 40), x -> x.isConsistent(), true);
        EDGES.due("43 isConsistent, all done", Farms.done(40), x -> x.isConsistent(), true);
        EDGES.due("43 isConsistent, a part", Farms.logged(3), x -> x.isConsistent(), true);
        EDGES.due("43 isConsistent, a part canceled", Farms.after(Farms.logged(3), x -> x.cancel(0)),
            x -> x.isConsistent(), true);
        EDGES.due("43 isConsistent, a part of a duplex job", Farms.after(Farms.job(5, 3, true, true), x -> {
            x.setToner(0, false, 8);
            x.release(0, 0);
        }), x -> x.isConsistent(), true);
        EDGES.due("43 isConsistent, a duplex job done", Farms.after(Farms.job(5, 3, false, true),
            x -> x.release(0, 0)), x -> x.isConsistent(), true);
        EDGES.due("43 isConsistent, many entries", Farms.logged(245), x -> x.isConsistent(), true);
        EDGES.due("43 isConsistent, other prices since", Farms.after(Farms.logged(3), x -> x.setPrices(99, 99, 99)),
            x -> x.isConsistent(), true);
        EDGES.due("43 isConsistent, a refused release", Farms.after(Farms.done(1),
            x -> Refusals.of(() -> x.release(0, 0))), x -> x.isConsistent(), true);
        EDGES.due("43 isConsistent, six users", printed(6), x -> x.isConsistent(), true);
    }

    /** No call can make it false, so what is kept is spoilt behind the calls' back, as it lies in the class. */
    private static void isInconsistent() throws Exception {
        for (String name : new String[] {"pagesOut", "bill"}) {
            for (int user = 0; user < 6; user++) {
                SpoolFarm farm = printed(6).get();
                spoil(farm, "users", user, name);
                EDGES.due("43 isConsistent, " + name + " of user " + user + " spoilt", () -> farm,
                    x -> x.isConsistent(), false);
            }
        }
        for (int job : new int[] {0, 1, 39}) {
            SpoolFarm farm = Farms.done(40).get();
            spoil(farm, "jobs", job, "pagesOut");
            EDGES.due("43 isConsistent, pagesOut of job " + job + " spoilt", () -> farm, x -> x.isConsistent(), false);
        }
    }

    private static void spoil(SpoolFarm farm, String row, int number, String name) throws Exception {
        Field rowField = SpoolFarm.class.getDeclaredField(row);
        rowField.setAccessible(true);
        Object kept = Array.get(rowField.get(farm), number);
        Field field = kept.getClass().getDeclaredField(name);
        field.setAccessible(true);
        if (field.getType() == long.class) {
            field.setLong(kept, field.getLong(kept) + 1);
        } else {
            field.setInt(kept, field.getInt(kept) + 1);
        }
    }

    // Promise 44
    private static void writeJob() {
        for (int jobs : new int[] {0, 1, 3, 40}) {
            EDGES.numbers("44 writeJob, job", Edges.INDEX, jobs, Farms.with(1, 1, jobs), (x, job) -> x.writeJob(job),
                job -> (job + ": 0/" + (job + 1) + " a4").length());
        }
        for (int job : new int[] {0, 9, 10, 39}) {
            wrote("job " + job, Farms.with(1, 1, 40), job, job + ": 0/" + (job + 1) + " a4");
        }
        wrote("the least of all pages", Farms.job(1, 1, false, false), 0, "0: 0/1 a4");
        wrote("the most of all pages", Farms.job(100, 9, false, false), 0, "0: 0/900 a4");
        wrote("the only page out", Farms.done(1), 0, "0: 1/1 a4");
        wrote("all but one page out", Farms.after(Farms.job(10, 1, false, false), x -> {
            x.setToner(0, false, 18);
            x.release(0, 0);
        }), 0, "0: 9/10 a4");
        wrote("all pages out", Farms.after(Farms.job(10, 1, false, false), x -> x.release(0, 0)), 0, "0: 10/10 a4");
        wrote("a part of a canceled job", Farms.after(Farms.logged(3), x -> x.cancel(0)), 0, "0: 6/900 a4");
        wrote("pages and not sheets out", Farms.after(Farms.job(5, 3, false, true), x -> {
            x.setToner(0, false, 15);
            x.release(0, 0);
        }), 0, "0: 7/15 a4 duplex");
        wrote("the document's example", Farms.after(Farms.with(1, 1, 3), x -> {
            x.setToner(0, true, 15);
            x.submit(0, 4, 3, 'a', true, false);
            x.setStapled(3, true);
            x.release(3, 0);
        }), 3, "3: 5/12 a4 colour stapled");
        Supplier<SpoolFarm> written = Farms.after(Farms.with(1, 1, 3), x -> x.writeJob(0));
        EDGES.due("44 writeJob, the line stays when the job changes", Farms.after(written, x -> {
            x.setStapled(0, true);
            x.release(0, 0);
        }), State::line, "0: 0/1 a4");
        EDGES.due("44 writeJob, a refused one leaves the line", Farms.after(written,
            x -> Refusals.of(() -> x.writeJob(3))), State::line, "0: 0/1 a4");
        EDGES.due("44 writeJob, a shorter line in place of a longer one", Farms.after(written, x -> {
            x.setStapled(0, true);
            x.writeJob(0);
            x.writeJob(1);
        }), State::line, "1: 0/2 a4");
        EDGES.due("44 writeJob, a longer line in place of a shorter one", Farms.after(written, x -> {
            x.setStapled(1, true);
            x.writeJob(1);
        }), State::line, "1: 0/2 a4 stapled");
        EDGES.due("44 writeJob, twice the same", written, x -> x.writeJob(0), 9);
    }

    private static void wrote(String row, Supplier<SpoolFarm> maker, int job, String due) {
        EDGES.due("44 writeJob, length, " + row, maker, x -> x.writeJob(job), due.length());
        EDGES.due("44 writeJob, " + row, Farms.after(maker, x -> x.writeJob(job)), State::line, due);
    }

    private static void writeJobParts() {
        String[] papers = {"a4", "a3", "letter"};
        for (int kind = 0; kind < 24; kind++) {
            char paper = "abl".charAt(kind % 3);
            boolean isColour = kind / 3 % 2 == 1;
            boolean isDuplex = kind / 6 % 2 == 1;
            boolean isStapled = kind / 12 == 1;
            String due = "0: 0/900 " + papers[kind % 3] + (isColour ? " colour" : "") + (isDuplex ? " duplex" : "")
                + (isStapled ? " stapled" : "");
            wrote("as " + due, Farms.after(Farms.office(9, 9, 9, 9), x -> {
                x.submit(0, 100, 9, paper, isColour, isDuplex);
                x.setStapled(0, isStapled);
            }), 0, due);
        }
    }

    // Promise 45
    private static void lineAt() {
        EDGES.outOfRange("45 lineAt, the empty line", 0, -1, Edges.INDEX, SpoolFarm::new, (x, index) -> x.lineAt(index));
        EDGES.outOfRange("45 lineAt, no job written", 0, -1, Edges.INDEX, Farms.done(3), (x, index) -> x.lineAt(index));
        EDGES.numbers("45 lineAt, index", Edges.INDEX, 9, Farms.after(Farms.with(1, 1, 3), x -> x.writeJob(0)),
            (x, index) -> x.lineAt(index), index -> "0: 0/1 a4".charAt(index));
        String most = "39: 0/900 letter colour duplex stapled";
        EDGES.numbers("45 lineAt, index", Edges.INDEX, most.length(), Farms.after(Farms.with(1, 1, 39), x -> {
            x.submit(0, 100, 9, 'l', true, true);
            x.setStapled(39, true);
            x.writeJob(39);
        }), (x, index) -> x.lineAt(index), index -> most.charAt(index));
        EDGES.numbers("45 lineAt, after a longer line, index", Edges.INDEX, 9, Farms.after(Farms.with(1, 1, 3), x -> {
            x.setStapled(2, true);
            x.writeJob(2);
            x.writeJob(1);
        }), (x, index) -> x.lineAt(index), index -> "1: 0/2 a4".charAt(index));
        EDGES.outOfRange("45 lineAt, after a refused writeJob", 0, -1, Edges.INDEX,
            Farms.after(Farms.with(1, 1, 3), x -> Refusals.of(() -> x.writeJob(3))), (x, index) -> x.lineAt(index));
    }
}
