import java.util.function.Consumer;
import java.util.function.Supplier;

/** Makers of farms for the edge tests; each call of a maker makes the same farm anew. */
final class Farms {
    private Farms() {
    }

    /**
     * User u has 100 + u mono and 200 + u colour pages; printer p prints colour if p is even, has
     * 300 + p units, 20 + p staples and the trays a4 (30 + p), a3 (0) and letter (60 + p); job j
     * is user 0's and has j + 1 mono pages of a4.
     */
    static Supplier<SpoolFarm> with(int users, int printers, int jobs) {
        return after(SpoolFarm::new, farm -> {
            for (int user = 0; user < users; user++) {
                farm.addUser(100 + user, 200 + user);
            }
            for (int printer = 0; printer < printers; printer++) {
                farm.addPrinter(printer % 2 == 0, 300 + printer, 20 + printer);
                farm.addTray(printer, 'a', 30 + printer);
                farm.addTray(printer, 'b', 0);
                farm.addTray(printer, 'l', 60 + printer);
            }
            for (int job = 0; job < jobs; job++) {
                farm.submit(0, job + 1, 1, 'a', false, false);
            }
        });
    }

    /** A user with as many pages of each sort, a colour printer with one tray of a4, and no job. */
    static Supplier<SpoolFarm> office(int quota, int toner, int staples, int sheets) {
        return after(SpoolFarm::new, farm -> {
            farm.addUser(quota, quota);
            farm.addPrinter(true, toner, staples);
            farm.addTray(0, 'a', sheets);
        });
    }

    /** An office where nothing is short, and a job of a4 to be released there. */
    static Supplier<SpoolFarm> job(int pages, int copies, boolean isColour, boolean isDuplex) {
        return after(office(999, 1000, 100, 500), farm -> farm.submit(0, pages, copies, 'a', isColour, isDuplex));
    }

    static Supplier<SpoolFarm> stapledJob(int pages, int copies, boolean isDuplex) {
        return after(job(pages, copies, false, isDuplex), farm -> farm.setStapled(0, true));
    }

    /** A colour printer with so many empty trays, of a4, a3 and letter, and a mono one without. */
    static Supplier<SpoolFarm> trays(int trays) {
        return after(SpoolFarm::new, farm -> {
            farm.addPrinter(true, 100, 10);
            farm.addPrinter(false, 100, 10);
            for (int tray = 0; tray < trays; tray++) {
                farm.addTray(0, "abl".charAt(tray), 0);
            }
        });
    }

    /** Entry e of the log is of job 0, printer e % 2, 1 + e % 3 pages and as many sheets. */
    static Supplier<SpoolFarm> logged(int entries) {
        return after(SpoolFarm::new, farm -> {
            farm.addUser(999, 999);
            farm.addPrinter(true, 0, 0);
            farm.addPrinter(false, 0, 0);
            farm.addTray(0, 'a', 500);
            farm.addTray(1, 'a', 500);
            farm.submit(0, 100, 9, 'a', false, false);
            for (int entry = 0; entry < entries; entry++) {
                farm.setToner(entry % 2, false, 2 * (1 + entry % 3));
                farm.release(0, entry % 2);
            }
        });
    }

    /** So many jobs of one page, all of them done. */
    static Supplier<SpoolFarm> done(int jobs) {
        return after(office(999, 1000, 100, 500), farm -> {
            for (int job = 0; job < jobs; job++) {
                farm.submit(0, 1, 1, 'a', false, false);
            }
            farm.releaseAll(0, 0);
        });
    }

    static Supplier<SpoolFarm> after(Supplier<SpoolFarm> maker, Consumer<SpoolFarm> calls) {
        return () -> {
            SpoolFarm farm = maker.get();
            calls.accept(farm);
            return farm;
        };
    }
}
