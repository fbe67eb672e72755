import java.util.NoSuchElementException;

/** Promises 24 to 31: reasons, releases and queues. */
public final class ReleasesTest {
    private static final Class<IndexOutOfBoundsException> INDEX = IndexOutOfBoundsException.class;
    private static final Class<UnsupportedOperationException> UNSUPPORTED = UnsupportedOperationException.class;
    private static final Class<NoSuchElementException> NO_ELEMENT = NoSuchElementException.class;
    private static final int[] NO_PRINTERS = {-1, 2, 3, 4, Integer.MIN_VALUE, Integer.MAX_VALUE};
    private static final int[] NO_JOBS = {-1, 4, 39, 40, Integer.MIN_VALUE, Integer.MAX_VALUE};

    private static final Check CHECK = new Check();

    public static void main(String[] args) {
        reasonsInOrder();
        edgesOfReasons();
        wouldPrint();
        releaseTakes();
        releaseAtAnotherPrinter();
        traysInOrder();
        releaseRefused();
        releaseAll();
        stopOf();
        bestPrinter();
        queue();
        noSuchPlace();
        CHECK.end("ReleasesTest");
    }

    /**
     * A colour and a mono printer, both with a4; job 0 is a held mono job, job 1 a held colour
     * job, job 2 is done and job 3 canceled.
     */
    private static SpoolFarm farm() {
        SpoolFarm farm = new SpoolFarm();
        farm.addUser(50, 50);
        farm.addUser(10, 10);
        farm.addPrinter(true, 100, 2);
        farm.addPrinter(false, 100, 0);
        farm.addTray(0, 'a', 20);
        farm.addTray(1, 'a', 20);
        farm.submit(0, 4, 2, 'a', false, false);
        farm.submit(0, 4, 2, 'a', true, true);
        farm.submit(1, 1, 1, 'a', false, false);
        farm.submit(1, 1, 1, 'a', true, false);
        farm.release(2, 1);
        farm.cancel(3);
        return farm;
    }

    private static char reason(int mono, int colour, boolean isColourPrinter, int toner, int sheets) {
        SpoolFarm farm = new SpoolFarm();
        farm.addUser(mono, colour);
        farm.addPrinter(isColourPrinter, toner, 0);
        if (sheets >= 0) {
            farm.addTray(0, 'l', sheets);
        }
        farm.submit(0, 4, 1, 'l', true, true);
        return farm.reasonFor(0, 0);
    }

    // Promise 24: each reason hides those behind it
    private static void reasonsInOrder() {
        SpoolFarm farm = farm();
        CHECK.same("none", farm.reasonFor(0, 0), '-');
        CHECK.same("none", farm.reasonFor(1, 0), '-');
        CHECK.same("done", farm.reasonFor(2, 0), 'd');
        CHECK.same("canceled", farm.reasonFor(3, 0), 'x');
        CHECK.same("canceled before no colour", farm.reasonFor(3, 1), 'x');
        CHECK.same("no colour", farm.reasonFor(1, 1), 'n');
        CHECK.same("no colour first", reason(0, 0, false, 0, -1), 'n');
        CHECK.same("no tray first", reason(0, 0, true, 0, -1), 'k');
        CHECK.same("no paper first", reason(0, 0, true, 0, 0), 'p');
        CHECK.same("no black toner first", reason(0, 0, true, 0, 1), 't');
        CHECK.same("no black toner first", reason(0, 0, true, 1, 1), 't');
        CHECK.same("no colour toner first", reason(0, 0, true, 2, 1), 'c');
        CHECK.same("no colour toner first", reason(0, 0, true, 5, 1), 'c');
        CHECK.same("no quota", reason(999, 1, true, 6, 1), 'q');
        CHECK.same("a sheet", reason(0, 2, true, 6, 1), '-');
        farm.load(1, 0, 1);
        farm.setToner(1, false, 0);
        CHECK.same("done before all", farm.reasonFor(2, 1), 'd');
        CHECK.same("a tray with another paper", farm.reasonFor(farm.submit(0, 1, 1, 'b', false, false), 1), 'k');
    }

    private static void edgesOfReasons() {
        SpoolFarm farm = new SpoolFarm();
        farm.addUser(1, 0);
        farm.addPrinter(true, 0, 0);
        farm.addTray(0, 'a', 0);
        farm.addTray(0, 'b', 5);
        farm.addTray(0, 'a', 0);
        farm.submit(0, 3, 1, 'a', false, true);
        CHECK.same("each tray with it is empty", farm.reasonFor(0, 0), 'p');
        farm.load(0, 2, 1);
        CHECK.same("one tray with it is not", farm.reasonFor(0, 0), 't');
        farm.setToner(0, false, 3);
        CHECK.same("3 units for 2 mono pages", farm.reasonFor(0, 0), 't');
        farm.setToner(0, false, 4);
        CHECK.same("4 units for 2 mono pages, colour toner is not asked", farm.reasonFor(0, 0), 'q');
        farm.grant(0, true, 9);
        CHECK.same("the quota for the other sort is not asked", farm.reasonFor(0, 0), 'q');
        farm.grant(0, false, 1);
        CHECK.same("the quota of 2", farm.reasonFor(0, 0), '-');
        farm.release(0, 0);
        farm.load(0, 0, 1);
        farm.setToner(0, false, 2);
        farm.grant(0, false, 1);
        CHECK.same("the last sheet has one page", farm.reasonFor(0, 0), '-');
        CHECK.same("and comes out", farm.release(0, 0), 1);
    }

    // Promise 25
    private static void wouldPrint() {
        SpoolFarm farm = farm();
        CHECK.same("all of it", farm.wouldPrint(0, 0), 8);
        CHECK.same("all of it", farm.wouldPrint(1, 0), 8);
        CHECK.same("a reason", farm.wouldPrint(1, 1), 0);
        CHECK.same("a done job", farm.wouldPrint(2, 0), 0);
        CHECK.same("a canceled job", farm.wouldPrint(3, 0), 0);
        farm.setToner(0, true, 11);
        CHECK.same("colour toner for 3 pages, sheets of 2", farm.wouldPrint(1, 0), 2);
        farm.setToner(0, false, 11);
        CHECK.same("black toner for 5 pages", farm.wouldPrint(0, 0), 5);
        CHECK.same("nothing came out", farm.wouldPrint(0, 0), 5);
        CHECK.same("nothing came out", farm.logSize(), 1);
        CHECK.same("nothing came out", farm.sheetsIn(0, 0), 20);
        CHECK.same("nothing came out", farm.stateOf(0), 'h');
        SpoolFarm large = new SpoolFarm();
        large.addUser(999, 0);
        large.addPrinter(false, 1000, 0);
        large.addTray(0, 'a', 500);
        large.submit(0, 100, 9, 'a', false, false);
        CHECK.same("up to the last sheet", large.wouldPrint(0, 0), 500);
        large.setToner(0, false, 999);
        CHECK.same("up to the toner", large.wouldPrint(0, 0), 499);
    }

    // Promise 26
    private static void releaseTakes() {
        SpoolFarm farm = farm();
        CHECK.same("release", farm.release(0, 0), 8);
        CHECK.same("sheets", farm.sheetsIn(0, 0), 12);
        CHECK.same("black toner", farm.tonerOf(0, false), 84);
        CHECK.same("colour toner", farm.tonerOf(0, true), 100);
        CHECK.same("mono quota", farm.quotaOf(0, false), 42);
        CHECK.same("colour quota", farm.quotaOf(0, true), 50);
        CHECK.same("state", farm.stateOf(0), 'd');
        CHECK.same("bill", farm.billOf(0), 24);
        CHECK.same("release of a colour job", farm.release(1, 0), 8);
        CHECK.same("sheets", farm.sheetsIn(0, 0), 8);
        CHECK.same("black toner", farm.tonerOf(0, false), 76);
        CHECK.same("colour toner", farm.tonerOf(0, true), 76);
        CHECK.same("mono quota", farm.quotaOf(0, false), 42);
        CHECK.same("colour quota", farm.quotaOf(0, true), 42);
        CHECK.same("bill", farm.billOf(0), 24 + 8 * 9 + 4);
        CHECK.same("the other user's quota", farm.quotaOf(1, true), 10);
        CHECK.same("the other printer's toner", farm.tonerOf(1, false), 98);
    }

    private static void releaseAtAnotherPrinter() {
        SpoolFarm farm = farm();
        farm.setToner(0, false, 6);
        CHECK.same("until the toner is out", farm.release(0, 0), 3);
        CHECK.same("why", farm.stopOf(0), 't');
        CHECK.same("what is left", farm.pagesLeft(0), 5);
        CHECK.same("the rest at another", farm.release(0, 1), 5);
        CHECK.same("why", farm.stopOf(0), 'd');
        CHECK.same("sheets there", farm.sheetsIn(1, 0), 14);
        CHECK.same("sheets in all", farm.sheetsOut(0), 8);
    }

    private static void traysInOrder() {
        SpoolFarm farm = new SpoolFarm();
        farm.addUser(100, 0);
        farm.addPrinter(false, 100, 0);
        farm.addTray(0, 'a', 2);
        farm.addTray(0, 'b', 9);
        farm.addTray(0, 'a', 4);
        farm.submit(0, 3, 2, 'a', false, false);
        farm.submit(0, 1, 1, 'a', false, false);
        CHECK.same("release over two trays", farm.release(1, 0) + farm.release(0, 0), 6);
        CHECK.same("the end", farm.stopOf(0), 'p');
        CHECK.same("first tray", farm.sheetsIn(0, 0), 0);
        CHECK.same("tray with another paper", farm.sheetsIn(0, 1), 9);
        CHECK.same("last tray", farm.sheetsIn(0, 2), 0);
        farm.load(0, 2, 3);
        farm.load(0, 0, 1);
        farm.release(0, 0);
        CHECK.same("the lowest tray first", farm.sheetsIn(0, 0), 0);
        CHECK.same("the highest tray stays", farm.sheetsIn(0, 2), 3);
    }

    private static void releaseRefused() {
        CHECK.refuses("release of a done job", UNSUPPORTED, ReleasesTest::farm, x -> x.release(2, 0));
        CHECK.refuses("release of a canceled job", UNSUPPORTED, ReleasesTest::farm, x -> x.release(3, 0));
        CHECK.refuses("release without colour", UNSUPPORTED, ReleasesTest::farm, x -> x.release(1, 1));
    }

    // Promise 27
    private static void releaseAll() {
        SpoolFarm farm = new SpoolFarm();
        farm.addUser(100, 100);
        farm.addUser(100, 100);
        farm.addPrinter(false, 100, 9);
        farm.addTray(0, 'a', 9);
        farm.submit(0, 2, 1, 'a', false, false);
        farm.submit(1, 2, 1, 'a', false, false);
        farm.submit(0, 2, 1, 'a', true, false);
        farm.submit(0, 3, 1, 'a', false, false);
        farm.submit(0, 9, 1, 'a', false, false);
        farm.submit(0, 1, 1, 'a', false, false);
        farm.cancel(3);
        farm.setStapled(0, true);
        CHECK.same("releaseAll", farm.releaseAll(0, 0), 1);
        CHECK.same("first", farm.stateOf(0), 'd');
        CHECK.same("stapled", farm.stapledCopies(0), 1);
        CHECK.same("another user's", farm.stateOf(1), 'h');
        CHECK.same("no colour, stays", farm.stateOf(2), 'h');
        CHECK.same("canceled, stays", farm.stateOf(3), 'x');
        CHECK.same("a part", farm.stateOf(4), 'p');
        CHECK.same("its end", farm.stopOf(4), 'p');
        CHECK.same("no paper is left", farm.stateOf(5), 'h');
        CHECK.same("entries", farm.logSize(), 2);
        CHECK.same("second entry", farm.logJob(1), 4);
        CHECK.refuses("stopOf of one of which none came out", NO_ELEMENT, () -> farm, x -> x.stopOf(5));
        CHECK.same("again without paper", farm.releaseAll(0, 0), 0);
        CHECK.same("no entry for nothing", farm.logSize(), 2);
        farm.load(0, 0, 50);
        CHECK.same("the rest", farm.releaseAll(0, 0), 2);
        CHECK.same("none is left but the colour job", farm.releaseAll(0, 0), 0);
        CHECK.same("a user's only job", farm.releaseAll(1, 0), 1);
    }

    // Promise 28
    private static void stopOf() {
        SpoolFarm farm = farm();
        CHECK.same("done", farm.stopOf(2), 'd');
        CHECK.refuses("not released", NO_ELEMENT, ReleasesTest::farm, x -> x.stopOf(0));
        CHECK.refuses("canceled, not released", NO_ELEMENT, ReleasesTest::farm, x -> x.stopOf(3));
        farm.setToner(0, true, 6);
        farm.release(1, 0);
        CHECK.same("colour toner", farm.stopOf(1), 'c');
        CHECK.refuses("a refused release", UNSUPPORTED, () -> farm, x -> x.release(1, 1));
        CHECK.same("stays after a refused release", farm.stopOf(1), 'c');
        farm.setToner(0, true, 1000);
        farm.submit(1, 5, 3, 'a', false, true);
        farm.release(4, 0);
        CHECK.same("quota of 9 for sheets 2 2 1 2 2", farm.stopOf(4), 'q');
        CHECK.same("pages left", farm.pagesLeft(4), 6);
        farm.grant(1, false, 99);
        farm.setToner(0, false, 3);
        farm.release(4, 0);
        CHECK.same("of the last release, black toner", farm.stopOf(4), 't');
    }

    // Promise 29
    private static void bestPrinter() {
        SpoolFarm farm = farm();
        CHECK.same("the lowest of equals", farm.bestPrinter(0), 0);
        CHECK.same("the one with colour", farm.bestPrinter(1), 0);
        farm.setToner(0, false, 15);
        CHECK.same("the one with more pages", farm.bestPrinter(0), 1);
        farm.setToner(1, false, 14);
        CHECK.same("the lowest of equals", farm.bestPrinter(0), 0);
        farm.addPrinter(false, 1000, 0);
        farm.addTray(2, 'a', 8);
        farm.addPrinter(false, 1000, 0);
        farm.addTray(3, 'a', 500);
        CHECK.same("the third", farm.bestPrinter(0), 2);
        farm.submit(0, 1, 1, 'a', false, false);
        CHECK.same("of one page, the lowest", farm.bestPrinter(4), 0);
        farm.setToner(0, false, 1);
        farm.setToner(1, false, 2);
        CHECK.same("one page of several", farm.bestPrinter(4), 1);
        farm.setToner(1, false, 1);
        CHECK.same("one page of several", farm.bestPrinter(4), 2);
        CHECK.refuses("a done job", NO_ELEMENT, ReleasesTest::farm, x -> x.bestPrinter(2));
        CHECK.refuses("a canceled job", NO_ELEMENT, ReleasesTest::farm, x -> x.bestPrinter(3));
    }

    // Promises 30 and 31
    private static void queue() {
        SpoolFarm farm = farm();
        CHECK.same("queueLength", farm.queueLength(0), 2);
        CHECK.same("queueLength", farm.queueLength(1), 1);
        farm.setToner(1, false, 15);
        farm.submit(1, 9, 1, 'a', false, false);
        farm.submit(1, 7, 1, 'a', false, false);
        farm.submit(1, 1, 1, 'b', false, false);
        farm.submit(1, 2, 1, 'a', false, false);
        int[] due = {5, 7, 0, 4};
        CHECK.same("queueLength", farm.queueLength(1), due.length);
        for (int position = 0; position < due.length; position++) {
            CHECK.same("queueAt " + position, farm.queueAt(1, position), due[position]);
        }
        for (int position : new int[] {-1, 4, 5, 40, Integer.MIN_VALUE, Integer.MAX_VALUE}) {
            CHECK.refuses("queueAt no position", NO_ELEMENT, () -> farm, x -> x.queueAt(1, position));
        }
        CHECK.same("nothing came out", farm.logSize(), 1);
        farm.release(4, 1);
        CHECK.same("no toner is left for a sheet", farm.queueLength(1), 0);
        CHECK.refuses("queueAt of none", NO_ELEMENT, () -> farm, x -> x.queueAt(1, 0));
        farm.setToner(1, false, 2);
        farm.submit(0, 1, 1, 'a', false, false);
        CHECK.same("one sheet ends it", farm.queueAt(1, 0), 8);
        CHECK.same("one sheet of several", farm.queueAt(1, 1), 0);
    }

    private static void noSuchPlace() {
        for (int job : NO_JOBS) {
            CHECK.refuses("reasonFor no job", INDEX, ReleasesTest::farm, x -> x.reasonFor(job, 0));
            CHECK.refuses("wouldPrint no job", INDEX, ReleasesTest::farm, x -> x.wouldPrint(job, 0));
            CHECK.refuses("release no job", INDEX, ReleasesTest::farm, x -> x.release(job, 0));
            CHECK.refuses("stopOf no job", INDEX, ReleasesTest::farm, x -> x.stopOf(job));
            CHECK.refuses("bestPrinter no job", INDEX, ReleasesTest::farm, x -> x.bestPrinter(job));
        }
        for (int printer : NO_PRINTERS) {
            CHECK.refuses("reasonFor no printer", INDEX, ReleasesTest::farm, x -> x.reasonFor(2, printer));
            CHECK.refuses("wouldPrint no printer", INDEX, ReleasesTest::farm, x -> x.wouldPrint(2, printer));
            CHECK.refuses("release no printer", INDEX, ReleasesTest::farm, x -> x.release(2, printer));
            CHECK.refuses("releaseAll no printer", INDEX, ReleasesTest::farm, x -> x.releaseAll(0, printer));
            CHECK.refuses("queueLength no printer", INDEX, ReleasesTest::farm, x -> x.queueLength(printer));
            CHECK.refuses("queueAt no printer", INDEX, ReleasesTest::farm, x -> x.queueAt(printer, -1));
        }
        for (int user : new int[] {-1, 2, 5, 6, Integer.MIN_VALUE, Integer.MAX_VALUE}) {
            CHECK.refuses("releaseAll no user", INDEX, ReleasesTest::farm, x -> x.releaseAll(user, 0));
        }
    }
}
