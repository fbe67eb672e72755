/** Promises 17 to 23: jobs. */
public final class JobsTest {
    private static final Class<IndexOutOfBoundsException> INDEX = IndexOutOfBoundsException.class;
    private static final Class<IllegalArgumentException> ARGUMENT = IllegalArgumentException.class;
    private static final Class<IllegalStateException> STATE = IllegalStateException.class;
    private static final int[] NO_JOBS = {-1, 3, 39, 40, Integer.MIN_VALUE, Integer.MAX_VALUE};

    private static final Check CHECK = new Check();

    public static void main(String[] args) {
        submit();
        submitRefused();
        setStapled();
        cancel();
        states();
        sheets();
        stapling();
        noSuchJob();
        CHECK.end("JobsTest");
    }

    /** A printer with 4 sheets of a4; job 0 is done, job 1 partly out, job 2 canceled. */
    private static SpoolFarm farm() {
        SpoolFarm farm = new SpoolFarm();
        farm.addUser(100, 100);
        farm.addPrinter(true, 1000, 10);
        farm.addTray(0, 'a', 4);
        farm.submit(0, 1, 1, 'a', false, false);
        farm.submit(0, 5, 2, 'a', true, true);
        farm.submit(0, 9, 1, 'b', false, false);
        farm.release(0, 0);
        farm.release(1, 0);
        farm.cancel(2);
        return farm;
    }

    private static SpoolFarm fullOfJobs() {
        SpoolFarm farm = new SpoolFarm();
        farm.addUser(100, 100);
        for (int job = 0; job < 40; job++) {
            CHECK.same("submit", farm.submit(0, 1, 1, 'a', false, false), job);
        }
        return farm;
    }

    // Promise 17
    private static void submit() {
        SpoolFarm farm = farm();
        CHECK.same("submit", farm.submit(0, 100, 9, 'l', true, true), 3);
        CHECK.same("submit", farm.submit(0, 1, 1, 'b', false, false), 4);
        CHECK.same("state at first", farm.stateOf(3), 'h');
        CHECK.same("all pages", farm.pagesLeft(3), 900);
        CHECK.same("all pages", farm.pagesLeft(4), 1);
        CHECK.same("sheets at first", farm.sheetsOut(3), 0);
        CHECK.same("stapled copies at first", farm.stapledCopies(3), 0);
        CHECK.same("stapled at first", farm.setStapled(3, false), false);
        SpoolFarm full = fullOfJobs();
        full.cancel(39);
        CHECK.same("a canceled job counts", thrown(full), 1);
    }

    private static int thrown(SpoolFarm full) {
        try {
            full.submit(0, 1, 1, 'a', false, false);
        } catch (IllegalStateException due) {
            return 1;
        }
        return 0;
    }

    private static void submitRefused() {
        for (int user : new int[] {-1, 1, 6, Integer.MIN_VALUE, Integer.MAX_VALUE}) {
            CHECK.refuses("submit of no user", INDEX, JobsTest::farm,
                x -> x.submit(user, 0, 0, 'z', false, false));
        }
        for (int pages : new int[] {0, -1, 101, Integer.MIN_VALUE, Integer.MAX_VALUE}) {
            CHECK.refuses("submit, pages", ARGUMENT, JobsTest::farm,
                x -> x.submit(0, pages, 1, 'a', false, false));
            CHECK.refuses("submit, pages, full", ARGUMENT, JobsTest::fullOfJobs,
                x -> x.submit(0, pages, 1, 'a', false, false));
        }
        for (int copies : new int[] {0, -1, 10, Integer.MIN_VALUE, Integer.MAX_VALUE}) {
            CHECK.refuses("submit, copies", ARGUMENT, JobsTest::farm,
                x -> x.submit(0, 1, copies, 'a', false, false));
        }
        for (char paper : new char[] {'A', 'c', 'm', 0, 255}) {
            CHECK.refuses("submit, paper", ARGUMENT, JobsTest::farm,
                x -> x.submit(0, 1, 1, paper, false, false));
            CHECK.refuses("submit, paper, full", ARGUMENT, JobsTest::fullOfJobs,
                x -> x.submit(0, 1, 1, paper, false, false));
        }
        CHECK.refuses("a 41st job", STATE, JobsTest::fullOfJobs,
            x -> x.submit(0, 1, 1, 'a', false, false));
        CHECK.refuses("a 41st job of no user", INDEX, JobsTest::fullOfJobs,
            x -> x.submit(1, 1, 1, 'a', false, false));
    }

    // Promise 18
    private static void setStapled() {
        SpoolFarm farm = farm();
        for (int job = 0; job < 3; job++) {
            CHECK.same("setStapled", farm.setStapled(job, true), false);
            CHECK.same("setStapled", farm.setStapled(job, true), true);
            CHECK.same("setStapled", farm.setStapled(job, false), true);
            CHECK.same("setStapled", farm.setStapled(job, false), false);
        }
    }

    // Promise 19
    private static void cancel() {
        SpoolFarm farm = farm();
        long bill = farm.billOf(0);
        CHECK.same("cancel of a part", farm.cancel(1), 5);
        CHECK.same("what came out stays billed", farm.billOf(0), bill);
        CHECK.same("state", farm.stateOf(1), 'x');
        CHECK.same("pages left", farm.pagesLeft(1), 5);
        CHECK.same("sheets out", farm.sheetsOut(1), 3);
        CHECK.same("last stop stays", farm.stopOf(1), 'p');
        CHECK.same("cancel of none out", farm.cancel(farm.submit(0, 7, 3, 'a', false, false)), 21);
        CHECK.refuses("cancel of a done job", STATE, JobsTest::farm, x -> x.cancel(0));
        CHECK.refuses("cancel of a canceled job", STATE, JobsTest::farm, x -> x.cancel(2));
    }

    // Promises 20 and 21
    private static void states() {
        SpoolFarm farm = farm();
        CHECK.same("state of a done job", farm.stateOf(0), 'd');
        CHECK.same("state of a part", farm.stateOf(1), 'p');
        CHECK.same("state of a canceled job", farm.stateOf(2), 'x');
        CHECK.same("state of a new job", farm.stateOf(farm.submit(0, 1, 1, 'a', false, false)), 'h');
        CHECK.same("pages left of a done job", farm.pagesLeft(0), 0);
        CHECK.same("pages left of a part", farm.pagesLeft(1), 5);
        CHECK.same("pages left of a canceled job", farm.pagesLeft(2), 9);
        CHECK.same("pages left of a new job", farm.pagesLeft(3), 1);
    }

    // Promise 22
    private static void sheets() {
        SpoolFarm farm = farm();
        CHECK.same("sheets of a mono page", farm.sheetsOut(0), 1);
        CHECK.same("sheets of a duplex copy of 5", farm.sheetsOut(1), 3);
        CHECK.same("sheets of a canceled job", farm.sheetsOut(2), 0);
        farm.load(0, 0, 500);
        farm.release(1, 0);
        CHECK.same("each copy begins on a new sheet", farm.sheetsOut(1), 6);
        CHECK.same("sheets in the tray", farm.sheetsIn(0, 0), 497);
        farm.submit(0, 1, 9, 'a', false, true);
        farm.release(3, 0);
        CHECK.same("copies of one page, duplex", farm.sheetsOut(3), 9);
        farm.submit(0, 4, 3, 'a', false, true);
        farm.release(4, 0);
        CHECK.same("copies of four pages, duplex", farm.sheetsOut(4), 6);
        farm.submit(0, 4, 3, 'a', false, false);
        farm.release(5, 0);
        CHECK.same("copies of four pages", farm.sheetsOut(5), 12);
    }

    // Promise 23
    private static void stapling() {
        SpoolFarm farm = new SpoolFarm();
        farm.addUser(999, 0);
        farm.addPrinter(false, 1000, 4);
        farm.addTray(0, 'a', 5);
        farm.submit(0, 3, 4, 'a', false, false);
        CHECK.same("none yet", farm.stapledCopies(0), 0);
        farm.setStapled(0, true);
        farm.release(0, 0);
        CHECK.same("one copy whole", farm.stapledCopies(0), 1);
        CHECK.same("staples", farm.staplesIn(0), 3);
        farm.load(0, 0, 4);
        farm.release(0, 0);
        CHECK.same("the copy in two releases is not stapled, the next is", farm.stapledCopies(0), 2);
        CHECK.same("staples", farm.staplesIn(0), 2);
        farm.setStapled(0, false);
        farm.load(0, 0, 100);
        farm.release(0, 0);
        CHECK.same("not to be stapled any more", farm.stapledCopies(0), 2);
        CHECK.same("staples", farm.staplesIn(0), 2);
        stapleOne(farm, 1, 9, false, 0);
        stapleOne(farm, 2, 3, true, 0);
        stapleOne(farm, 2, 1, false, 1);
        stapleOne(farm, 3, 4, true, 1);
        CHECK.same("no staple is left", farm.staplesIn(0), 0);
        stapleOne(farm, 3, 1, true, 0);
        farm.setStaples(0, 2);
        stapleOne(farm, 3, 4, true, 2);
        CHECK.same("no staple is left", farm.staplesIn(0), 0);
        farm.setStaples(0, 9);
        farm.setToner(0, false, 4);
        int part = farm.submit(0, 3, 1, 'a', false, false);
        farm.release(part, 0);
        CHECK.same("a release ends within a copy", farm.pagesLeft(part), 1);
        farm.setToner(0, false, 100);
        stapleOne(farm, 1, 2, false, 0);
    }

    private static void stapleOne(SpoolFarm farm, int pages, int copies, boolean isDuplex, int due) {
        int job = farm.submit(0, pages, copies, 'a', false, isDuplex);
        farm.setStapled(job, true);
        farm.release(job, 0);
        CHECK.same("stapled copies of " + copies + " x " + pages, farm.stapledCopies(job), due);
    }

    private static void noSuchJob() {
        for (int job : NO_JOBS) {
            CHECK.refuses("setStapled", INDEX, JobsTest::farm, x -> x.setStapled(job, true));
            CHECK.refuses("cancel", INDEX, JobsTest::farm, x -> x.cancel(job));
            CHECK.refuses("stateOf", INDEX, JobsTest::farm, x -> x.stateOf(job));
            CHECK.refuses("pagesLeft", INDEX, JobsTest::farm, x -> x.pagesLeft(job));
            CHECK.refuses("sheetsOut", INDEX, JobsTest::farm, x -> x.sheetsOut(job));
            CHECK.refuses("stapledCopies", INDEX, JobsTest::farm, x -> x.stapledCopies(job));
        }
    }
}
