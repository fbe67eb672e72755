/** Promises 32 to 45: log, bills and line. */
public final class LogTest {
    private static final Class<IndexOutOfBoundsException> INDEX = IndexOutOfBoundsException.class;
    private static final Class<ArithmeticException> ARITHMETIC = ArithmeticException.class;

    private static final Check CHECK = new Check();

    public static void main(String[] args) {
        entries();
        kept();
        prices();
        means();
        noMeans();
        consistent();
        lines();
        lineStays();
        noSuch();
        CHECK.end("LogTest");
    }

    /** Two users, two printers and three entries: job 1 at 1, job 0 at 0, job 1 at 0. */
    private static SpoolFarm farm() {
        SpoolFarm farm = new SpoolFarm();
        farm.addUser(50, 50);
        farm.addUser(50, 50);
        farm.addUser(50, 50);
        farm.addPrinter(true, 100, 5);
        farm.addPrinter(true, 100, 5);
        farm.addTray(0, 'a', 100);
        farm.addTray(1, 'a', 2);
        farm.submit(0, 5, 2, 'a', false, true);
        farm.submit(1, 3, 2, 'a', true, false);
        farm.release(1, 1);
        farm.release(0, 0);
        farm.release(1, 0);
        return farm;
    }

    // Promises 32 to 36
    private static void entries() {
        SpoolFarm farm = farm();
        int[][] due = {{1, 1, 2, 2}, {0, 0, 10, 6}, {1, 0, 4, 4}};
        CHECK.same("logSize", farm.logSize(), due.length);
        for (int entry = 0; entry < due.length; entry++) {
            CHECK.same("logJob", farm.logJob(entry), due[entry][0]);
            CHECK.same("logPrinter", farm.logPrinter(entry), due[entry][1]);
            CHECK.same("logPages", farm.logPages(entry), due[entry][2]);
            CHECK.same("logSheets", farm.logSheets(entry), due[entry][3]);
        }
    }

    // Promises 37 to 40
    private static void kept() {
        SpoolFarm farm = farm();
        long[][] due = {{10, 10 * 2 + 6}, {6, 6 * 9 + 6}, {0, 0}};
        for (int user = 0; user < due.length; user++) {
            CHECK.same("pagesOf", farm.pagesOf(user), due[user][0]);
            CHECK.same("pagesByLog", farm.pagesByLog(user), due[user][0]);
            CHECK.same("billOf", farm.billOf(user), due[user][1]);
            CHECK.same("billByLog", farm.billByLog(user), due[user][1]);
        }
    }

    // Promises 16, 39 and 40
    private static void prices() {
        SpoolFarm farm = farm();
        farm.setPrices(10, 20, 30);
        CHECK.same("what came out before stays", farm.billOf(0), 26);
        CHECK.same("what came out before stays", farm.billByLog(0), 26);
        farm.submit(0, 2, 1, 'a', false, true);
        farm.release(2, 0);
        CHECK.same("a mono page and a sheet", farm.billOf(0), 26 + 2 * 10 + 30);
        CHECK.same("a mono page and a sheet", farm.billByLog(0), 26 + 2 * 10 + 30);
        farm.submit(0, 3, 1, 'a', true, true);
        farm.release(3, 0);
        CHECK.same("a colour page and a sheet", farm.billOf(0), 76 + 3 * 20 + 2 * 30);
        CHECK.same("a colour page and a sheet", farm.billByLog(0), 76 + 3 * 20 + 2 * 30);
        CHECK.same("the other user's bill", farm.billOf(1), 60);
        CHECK.same("consistent", farm.isConsistent(), true);
    }

    // Promises 41 and 42
    private static void means() {
        SpoolFarm farm = farm();
        CHECK.sameDouble("meanPages", farm.meanPages(), 16.0 / 3.0);
        CHECK.sameDouble("colourShare", farm.colourShare(), 6.0f / 16.0f);
        farm.submit(2, 3, 1, 'a', false, false);
        farm.release(2, 0);
        CHECK.sameDouble("meanPages", farm.meanPages(), 19.0 / 4.0);
        CHECK.sameDouble("colourShare", farm.colourShare(), 6.0f / 19.0f);
        CHECK.same("colourShare is a float", 6.0f / 19.0f != 6.0 / 19.0, true);
        SpoolFarm mono = new SpoolFarm();
        mono.addUser(9, 9);
        mono.addPrinter(false, 9, 9);
        mono.addTray(0, 'a', 9);
        mono.submit(0, 1, 1, 'a', false, false);
        mono.release(0, 0);
        CHECK.sameDouble("colourShare of mono pages", mono.colourShare(), 0.0);
        CHECK.sameDouble("meanPages of one", mono.meanPages(), 1.0);
    }

    private static void noMeans() {
        CHECK.refuses("meanPages of none", ARITHMETIC, SpoolFarm::new, x -> x.meanPages());
        CHECK.refuses("colourShare of none", ARITHMETIC, SpoolFarm::new, x -> x.colourShare());
        CHECK.refuses("meanPages of held jobs", ARITHMETIC, LogTest::held, x -> x.meanPages());
        CHECK.refuses("colourShare of held jobs", ARITHMETIC, LogTest::held, x -> x.colourShare());
    }

    private static SpoolFarm held() {
        SpoolFarm farm = new SpoolFarm();
        farm.addUser(9, 9);
        farm.submit(0, 4, 1, 'b', true, false);
        return farm;
    }

    // Promise 43; that it can be false is in LogEdgesTest
    private static void consistent() {
        CHECK.same("a new object", new SpoolFarm().isConsistent(), true);
        CHECK.same("held jobs", held().isConsistent(), true);
        SpoolFarm farm = farm();
        CHECK.same("done jobs", farm.isConsistent(), true);
        farm.submit(1, 90, 1, 'a', true, false);
        farm.release(2, 0);
        CHECK.same("a part of a job", farm.isConsistent(), true);
        CHECK.same("cancel", farm.cancel(2) > 0, true);
        CHECK.same("a part of a canceled job", farm.isConsistent(), true);
    }

    // Promise 44
    private static void lines() {
        SpoolFarm farm = new SpoolFarm();
        CHECK.sameText("the line at first", State.line(farm), "");
        farm.addUser(999, 999);
        farm.addPrinter(true, 1000, 0);
        farm.addTray(0, 'a', 5);
        wrote(farm, farm.submit(0, 6, 2, 'a', true, false), "0: 0/12 a4 colour");
        farm.setStapled(0, true);
        farm.release(0, 0);
        wrote(farm, 0, "0: 5/12 a4 colour stapled");
        farm.cancel(0);
        wrote(farm, 0, "0: 5/12 a4 colour stapled");
        wrote(farm, farm.submit(0, 1, 1, 'b', false, false), "1: 0/1 a3");
        wrote(farm, farm.submit(0, 100, 9, 'l', true, true), "2: 0/900 letter colour duplex");
        farm.setStapled(2, true);
        wrote(farm, 2, "2: 0/900 letter colour duplex stapled");
        wrote(farm, farm.submit(0, 7, 3, 'b', false, true), "3: 0/21 a3 duplex");
        farm.setStapled(3, true);
        wrote(farm, 3, "3: 0/21 a3 duplex stapled");
        farm.setStapled(3, false);
        wrote(farm, 3, "3: 0/21 a3 duplex");
        for (int job = 4; job < 40; job++) {
            farm.submit(0, 10, 1, 'a', false, false);
        }
        farm.load(0, 0, 500);
        farm.release(39, 0);
        wrote(farm, 39, "39: 10/10 a4");
    }

    private static void wrote(SpoolFarm farm, int job, String due) {
        CHECK.same("the length of " + due, farm.writeJob(job), due.length());
        CHECK.sameText("writeJob", State.line(farm), due);
    }

    // Promise 45, and what a refused writeJob leaves
    private static void lineStays() {
        SpoolFarm farm = farm();
        farm.writeJob(0);
        CHECK.refuses("writeJob of no job", INDEX, () -> farm, x -> x.writeJob(2));
        farm.setStapled(0, true);
        CHECK.sameText("the line stays until it is written", State.line(farm), "0: 10/10 a4 duplex");
        CHECK.same("first character", farm.lineAt(0), '0');
        CHECK.same("last character", farm.lineAt(17), 'x');
        for (int index : new int[] {-1, 18, 100, Integer.MIN_VALUE, Integer.MAX_VALUE}) {
            CHECK.refuses("lineAt", INDEX, () -> farm, x -> x.lineAt(index));
        }
        CHECK.refuses("lineAt of the empty line", INDEX, SpoolFarm::new, x -> x.lineAt(0));
    }

    private static void noSuch() {
        for (int entry : new int[] {-1, 3, 4, Integer.MIN_VALUE, Integer.MAX_VALUE}) {
            CHECK.refuses("logJob", INDEX, LogTest::farm, x -> x.logJob(entry));
            CHECK.refuses("logPrinter", INDEX, LogTest::farm, x -> x.logPrinter(entry));
            CHECK.refuses("logPages", INDEX, LogTest::farm, x -> x.logPages(entry));
            CHECK.refuses("logSheets", INDEX, LogTest::farm, x -> x.logSheets(entry));
            CHECK.refuses("pagesOf", INDEX, LogTest::farm, x -> x.pagesOf(entry));
            CHECK.refuses("pagesByLog", INDEX, LogTest::farm, x -> x.pagesByLog(entry));
            CHECK.refuses("billOf", INDEX, LogTest::farm, x -> x.billOf(entry));
            CHECK.refuses("billByLog", INDEX, LogTest::farm, x -> x.billByLog(entry));
        }
        for (int job : new int[] {-1, 2, 39, 40, Integer.MIN_VALUE, Integer.MAX_VALUE}) {
            CHECK.refuses("writeJob", INDEX, LogTest::farm, x -> x.writeJob(job));
        }
    }
}
