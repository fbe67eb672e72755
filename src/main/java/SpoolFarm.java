import java.util.ArrayList;
import java.util.NoSuchElementException;

/**
 * A print spool of an office: jobs are held until they are released at a printer, come out sheet
 * by sheet, and are billed and logged when they come out. It is not thread-safe.
 */
public final class SpoolFarm {
    private static final int MAX_USERS = 6;
    private static final int MAX_PRINTERS = 4;
    private static final int MAX_TRAYS = 3;
    private static final int MAX_JOBS = 40;
    private static final int MAX_QUOTA_STEP = 999;
    private static final int MAX_QUOTA = 9999;
    private static final int MAX_TONER = 1000;
    private static final int MAX_STAPLES = 100;
    private static final int MAX_SHEETS = 500;
    private static final int MAX_PRICE = 99;
    private static final int MAX_PAGES = 100;
    private static final int MAX_COPIES = 9;

    private static final char A4 = 'a';
    private static final char A3 = 'b';
    private static final char LETTER = 'l';

    private static final char DONE = 'd';
    private static final char CANCELED = 'x';
    private static final char NO_COLOUR = 'n';
    private static final char NO_TRAY = 'k';
    private static final char NO_PAPER = 'p';
    private static final char NO_BLACK_TONER = 't';
    private static final char NO_COLOUR_TONER = 'c';
    private static final char NO_QUOTA = 'q';
    private static final char NO_REASON = '-';

    private static final char HELD = 'h';
    private static final char PARTLY_OUT = 'p';

    private final User[] users = new User[MAX_USERS];
    private final Printer[] printers = new Printer[MAX_PRINTERS];
    private final Job[] jobs = new Job[MAX_JOBS];
    private int userTotal = 0;
    private int printerTotal = 0;
    private int jobTotal = 0;
    private int monoPrice = 2;
    private int colourPrice = 9;
    private int sheetPrice = 1;
    private final ArrayList<Entry> log = new ArrayList<Entry>();
    private final StringBuilder line = new StringBuilder();
    // One plan serves all calls, since a queue alone needs up to eighty of them a call.
    private final Plan plan = new Plan();

    public SpoolFarm() {
    }

    // ---- users, printers and trays

    public int addUser(int mono, int colour) throws IllegalArgumentException, IllegalStateException {
        checkRange(mono, 0, MAX_QUOTA_STEP);
        checkRange(colour, 0, MAX_QUOTA_STEP);
        int user = userTotal;
        if (user >= users.length) {
            throw new IllegalStateException("no more users");
        }
        users[user] = new User(mono, colour);
        userTotal = user + 1;
        return user;
    }

    public int addPrinter(boolean isColour, int toner, int staples)
            throws IllegalArgumentException, IllegalStateException {
        checkRange(toner, 0, MAX_TONER);
        checkRange(staples, 0, MAX_STAPLES);
        int printer = printerTotal;
        if (printer >= printers.length) {
            throw new IllegalStateException("no more printers");
        }
        printers[printer] = new Printer(isColour, toner, staples);
        printerTotal = printer + 1;
        return printer;
    }

    public int addTray(int printer, char paper, int sheets)
            throws IndexOutOfBoundsException, IllegalArgumentException, IllegalStateException {
        Printer owner = printerAt(printer);
        checkPaper(paper);
        checkRange(sheets, 0, MAX_SHEETS);
        int tray = owner.trayTotal;
        if (tray >= owner.trays.length) {
            throw new IllegalStateException("no more trays");
        }
        owner.trays[tray] = new Tray(paper, sheets);
        owner.trayTotal = tray + 1;
        return tray;
    }

    public int trayCount(int printer) throws IndexOutOfBoundsException {
        return printerAt(printer).trayTotal;
    }

    public int load(int printer, int tray, int sheets)
            throws IndexOutOfBoundsException, IllegalArgumentException, IllegalStateException {
        Tray loaded = trayAt(printer, tray);
        checkRange(sheets, 1, MAX_SHEETS);
        if (loaded.sheets + sheets > MAX_SHEETS) {
            throw new IllegalStateException("the tray would be too full");
        }
        loaded.sheets += sheets;
        return loaded.sheets;
    }

    public char changePaper(int printer, int tray, char paper)
            throws IndexOutOfBoundsException, IllegalArgumentException, IllegalStateException {
        Tray changed = trayAt(printer, tray);
        checkPaper(paper);
        if (changed.sheets > 0) {
            throw new IllegalStateException("the tray is not empty");
        }
        char before = changed.paper;
        changed.paper = paper;
        return before;
    }

    public int sheetsIn(int printer, int tray) throws IndexOutOfBoundsException {
        return trayAt(printer, tray).sheets;
    }

    public char paperOf(int printer, int tray) throws IndexOutOfBoundsException {
        return trayAt(printer, tray).paper;
    }

    public int setToner(int printer, boolean isColour, int units)
            throws IndexOutOfBoundsException, IllegalArgumentException, UnsupportedOperationException {
        Printer changed = printerAt(printer);
        checkRange(units, 0, MAX_TONER);
        checkHasToner(changed, isColour);
        int before = changed.toner(isColour);
        if (isColour) {
            changed.colourToner = units;
        } else {
            changed.blackToner = units;
        }
        return before;
    }

    public int tonerOf(int printer, boolean isColour)
            throws IndexOutOfBoundsException, UnsupportedOperationException {
        Printer asked = printerAt(printer);
        checkHasToner(asked, isColour);
        return asked.toner(isColour);
    }

    public int setStaples(int printer, int staples)
            throws IndexOutOfBoundsException, IllegalArgumentException {
        Printer changed = printerAt(printer);
        checkRange(staples, 0, MAX_STAPLES);
        int before = changed.staples;
        changed.staples = staples;
        return before;
    }

    public int staplesIn(int printer) throws IndexOutOfBoundsException {
        return printerAt(printer).staples;
    }

    public int grant(int user, boolean isColour, int pages)
            throws IndexOutOfBoundsException, IllegalArgumentException, IllegalStateException {
        User granted = userAt(user);
        checkRange(pages, 1, MAX_QUOTA_STEP);
        if (granted.quota(isColour) + pages > MAX_QUOTA) {
            throw new IllegalStateException("the quota would be too great");
        }
        granted.addQuota(isColour, pages);
        return granted.quota(isColour);
    }

    public int quotaOf(int user, boolean isColour) throws IndexOutOfBoundsException {
        return userAt(user).quota(isColour);
    }

    public int setPrices(int mono, int colour, int sheet) throws IllegalArgumentException {
        checkRange(mono, 0, MAX_PRICE);
        checkRange(colour, 0, MAX_PRICE);
        checkRange(sheet, 0, MAX_PRICE);
        int before = monoPrice;
        monoPrice = mono;
        colourPrice = colour;
        sheetPrice = sheet;
        return before;
    }

    // ---- jobs

    public int submit(int user, int pages, int copies, char paper, boolean isColour, boolean isDuplex)
            throws IndexOutOfBoundsException, IllegalArgumentException, IllegalStateException {
        userAt(user);
        checkRange(pages, 1, MAX_PAGES);
        checkRange(copies, 1, MAX_COPIES);
        checkPaper(paper);
        int job = jobTotal;
        if (job >= jobs.length) {
            throw new IllegalStateException("no more jobs");
        }
        Job submitted = new Job(job, user, pages, copies);
        submitted.paper = paper;
        submitted.isColour = isColour;
        submitted.isDuplex = isDuplex;
        jobs[job] = submitted;
        jobTotal = job + 1;
        return job;
    }

    public boolean setStapled(int job, boolean isStapled) throws IndexOutOfBoundsException {
        Job changed = jobAt(job);
        boolean before = changed.isStapled;
        changed.isStapled = isStapled;
        return before;
    }

    public int cancel(int job) throws IndexOutOfBoundsException, IllegalStateException {
        Job ended = jobAt(job);
        if (!ended.isHeld()) {
            throw new IllegalStateException("the job is done or canceled");
        }
        ended.isCanceled = true;
        return ended.pagesToCome();
    }

    public char stateOf(int job) throws IndexOutOfBoundsException {
        Job asked = jobAt(job);
        if (asked.isCanceled) {
            return CANCELED;
        }
        if (asked.pagesToCome() == 0) {
            return DONE;
        }
        return asked.pagesOut == 0 ? HELD : PARTLY_OUT;
    }

    public int pagesLeft(int job) throws IndexOutOfBoundsException {
        return jobAt(job).pagesToCome();
    }

    public int sheetsOut(int job) throws IndexOutOfBoundsException {
        return jobAt(job).sheetsOut;
    }

    public int stapledCopies(int job) throws IndexOutOfBoundsException {
        return jobAt(job).copiesStapled;
    }

    // ---- releases

    public char reasonFor(int job, int printer) throws IndexOutOfBoundsException {
        return reasonNow(jobAt(job), printerAt(printer));
    }

    public int wouldPrint(int job, int printer) throws IndexOutOfBoundsException {
        makePlan(jobAt(job), printerAt(printer));
        return plan.pages;
    }

    public int release(int job, int printer)
            throws IndexOutOfBoundsException, UnsupportedOperationException {
        Job released = jobAt(job);
        makePlan(released, printerAt(printer));
        if (plan.sheets == 0) {
            throw new UnsupportedOperationException("no sheet would come out");
        }
        carryOutPlan(released, printer);
        return plan.pages;
    }

    public int releaseAll(int user, int printer) throws IndexOutOfBoundsException {
        userAt(user);
        Printer used = printerAt(printer);
        int done = 0;
        for (Job job : jobs) {
            if (job != null && job.user == user && job.isHeld()) {
                makePlan(job, used);
                if (plan.sheets > 0) {
                    carryOutPlan(job, printer);
                    done += plan.stop == DONE ? 1 : 0;
                }
            }
        }
        return done;
    }

    public char stopOf(int job) throws IndexOutOfBoundsException, NoSuchElementException {
        Job asked = jobAt(job);
        if (asked.stop == NO_REASON) {
            throw new NoSuchElementException("the job has not been released");
        }
        return asked.stop;
    }

    public int bestPrinter(int job) throws IndexOutOfBoundsException, NoSuchElementException {
        Job asked = jobAt(job);
        int best = -1;
        int most = 0;
        for (int number = 0; number < printers.length; number++) {
            Printer printer = printers[number];
            if (printer != null) {
                makePlan(asked, printer);
                if (plan.pages > most) {
                    best = number;
                    most = plan.pages;
                }
            }
        }
        if (best < 0) {
            throw new NoSuchElementException("no page would come out");
        }
        return best;
    }

    public int queueLength(int printer) throws IndexOutOfBoundsException {
        Printer asked = printerAt(printer);
        int length = 0;
        for (Job job : jobs) {
            if (job != null && reasonNow(job, asked) == NO_REASON) {
                length++;
            }
        }
        return length;
    }

    public int queueAt(int printer, int position)
            throws IndexOutOfBoundsException, NoSuchElementException {
        Printer asked = printerAt(printer);
        int before = 0;
        for (int round = 0; round < 2; round++) {
            for (Job job : jobs) {
                if (job != null && isQueued(job, asked, round == 0)) {
                    if (before == position) {
                        return job.number;
                    }
                    before++;
                }
            }
        }
        throw new NoSuchElementException("no such position");
    }

    // ---- log and bills

    public int logSize() {
        return log.size();
    }

    public int logJob(int entry) throws IndexOutOfBoundsException {
        return entryAt(entry).job;
    }

    public int logPrinter(int entry) throws IndexOutOfBoundsException {
        return entryAt(entry).printer;
    }

    public int logPages(int entry) throws IndexOutOfBoundsException {
        return entryAt(entry).pages;
    }

    public int logSheets(int entry) throws IndexOutOfBoundsException {
        return entryAt(entry).sheets;
    }

    public int pagesOf(int user) throws IndexOutOfBoundsException {
        return userAt(user).pagesOut;
    }

    public int pagesByLog(int user) throws IndexOutOfBoundsException {
        userAt(user);
        int pages = 0;
        for (int i = 0; i < log.size(); i++) {
            Entry entry = log.get(i);
            pages += entry.user == user ? entry.pages : 0;
        }
        return pages;
    }

    public long billOf(int user) throws IndexOutOfBoundsException {
        return userAt(user).bill;
    }

    public long billByLog(int user) throws IndexOutOfBoundsException {
        userAt(user);
        long bill = 0;
        for (int i = 0; i < log.size(); i++) {
            Entry entry = log.get(i);
            bill += entry.user == user ? entry.cost : 0;
        }
        return bill;
    }

    public double meanPages() throws ArithmeticException {
        int entries = log.size();
        if (entries == 0) {
            throw new ArithmeticException("the log is empty");
        }
        int pages = 0;
        for (int i = 0; i < log.size(); i++) {
            pages += log.get(i).pages;
        }
        return (double) pages / (double) entries;
    }

    public float colourShare() throws ArithmeticException {
        int colourPages = 0;
        int allPages = 0;
        for (Job job : jobs) {
            if (job != null) {
                colourPages += job.isColour ? job.pagesOut : 0;
                allPages += job.pagesOut;
            }
        }
        if (allPages == 0) {
            throw new ArithmeticException("no page has come out");
        }
        return (float) colourPages / (float) allPages;
    }

    public boolean isConsistent() {
        for (int user = 0; user < userTotal; user++) {
            if (pagesOf(user) != pagesByLog(user) || billOf(user) != billByLog(user)) {
                return false;
            }
        }
        for (Job job : jobs) {
            if (job != null && loggedPages(job.number) + job.pagesToCome() != job.allPages) {
                return false;
            }
        }
        return true;
    }

    // ---- line

    public int writeJob(int job) throws IndexOutOfBoundsException {
        Job written = jobAt(job);
        line.setLength(0);
        line.append(written.number).append(": ");
        line.append(written.pagesOut).append('/').append(written.allPages);
        line.append(' ').append(paperName(written.paper));
        line.append(written.isColour ? " colour" : "");
        line.append(written.isDuplex ? " duplex" : "");
        line.append(written.isStapled ? " stapled" : "");
        return line.length();
    }

    public char lineAt(int index) throws IndexOutOfBoundsException {
        if (index < 0 || index >= line.length()) {
            throw new IndexOutOfBoundsException("no such character");
        }
        return line.charAt(index);
    }

    // ---- what the calls above share

    private static void checkRange(int value, int least, int most) {
        if (value < least || value > most) {
            throw new IllegalArgumentException("out of range");
        }
    }

    private static void checkPaper(char paper) {
        if (paper != A4 && paper != A3 && paper != LETTER) {
            throw new IllegalArgumentException("no such paper");
        }
    }

    private static String paperName(char paper) {
        if (paper == A4) {
            return "a4";
        }
        return paper == A3 ? "a3" : "letter";
    }

    private static void checkHasToner(Printer printer, boolean isColour) {
        if (isColour && !printer.isColour) {
            throw new UnsupportedOperationException("the printer prints no colour pages");
        }
    }

    private User userAt(int number) {
        User user = number >= 0 && number < users.length ? users[number] : null;
        if (user == null) {
            throw new IndexOutOfBoundsException("no such user");
        }
        return user;
    }

    private Printer printerAt(int number) {
        Printer printer = number >= 0 && number < printers.length ? printers[number] : null;
        if (printer == null) {
            throw new IndexOutOfBoundsException("no such printer");
        }
        return printer;
    }

    private Tray trayAt(int printer, int number) {
        Tray[] trays = printerAt(printer).trays;
        Tray tray = number >= 0 && number < trays.length ? trays[number] : null;
        if (tray == null) {
            throw new IndexOutOfBoundsException("no such tray");
        }
        return tray;
    }

    private Job jobAt(int number) {
        Job job = number >= 0 && number < jobs.length ? jobs[number] : null;
        if (job == null) {
            throw new IndexOutOfBoundsException("no such job");
        }
        return job;
    }

    private Entry entryAt(int number) {
        if (number < 0 || number >= log.size()) {
            throw new IndexOutOfBoundsException("no such entry");
        }
        return log.get(number);
    }

    private char reasonNow(Job job, Printer printer) {
        plan.begin(job, printer, userAt(job.user));
        return plan.nextReason(job, printer);
    }

    private void makePlan(Job job, Printer printer) {
        plan.stop = reasonNow(job, printer);
        for (int i = 0; i < MAX_PAGES * MAX_COPIES && plan.stop == NO_REASON; i++) {
            plan.addSheet(job);
            plan.stop = plan.nextReason(job, printer);
        }
    }

    private void carryOutPlan(Job job, int printerNumber) {
        Printer printer = printerAt(printerNumber);
        User user = userAt(job.user);
        int stapled = job.isStapled ? Math.min(plan.copiesToStaple, printer.staples) : 0;
        long cost = (job.isColour ? colourPrice : monoPrice) * plan.pages + sheetPrice * plan.sheets;

        printer.takeSheets(job.paper, plan.sheets);
        printer.blackToner -= job.blackTonerFor(plan.pages);
        printer.colourToner -= job.colourTonerFor(plan.pages);
        printer.staples -= stapled;

        user.addQuota(job.isColour, -plan.pages);
        user.pagesOut += plan.pages;
        user.bill += cost;

        job.pagesOut += plan.pages;
        job.pagesOutOfCopy = plan.pagesOutOfCopy;
        job.sheetsOut += plan.sheets;
        job.copiesStapled += stapled;
        job.stop = plan.stop;

        Entry entry = new Entry(job.number, job.user, printerNumber);
        entry.pages = plan.pages;
        entry.sheets = plan.sheets;
        entry.cost = cost;
        log.add(entry);
    }

    private boolean isQueued(Job job, Printer printer, boolean isFinishing) {
        makePlan(job, printer);
        return plan.sheets > 0 && (plan.stop == DONE) == isFinishing;
    }

    private int loggedPages(int job) {
        int pages = 0;
        for (int i = 0; i < log.size(); i++) {
            Entry entry = log.get(i);
            pages += entry.job == job ? entry.pages : 0;
        }
        return pages;
    }

    private static final class User {
        int monoQuota;
        int colourQuota;
        int pagesOut = 0;
        long bill = 0;

        User(int monoQuota, int colourQuota) {
            this.monoQuota = monoQuota;
            this.colourQuota = colourQuota;
        }

        int quota(boolean isColour) {
            return isColour ? colourQuota : monoQuota;
        }

        void addQuota(boolean isColour, int pages) {
            if (isColour) {
                colourQuota += pages;
            } else {
                monoQuota += pages;
            }
        }
    }

    private static final class Tray {
        char paper;
        int sheets;

        Tray(char paper, int sheets) {
            this.paper = paper;
            this.sheets = sheets;
        }
    }

    private static final class Printer {
        final boolean isColour;
        int blackToner;
        int colourToner;
        int staples;
        final Tray[] trays = new Tray[MAX_TRAYS];
        int trayTotal = 0;

        Printer(boolean isColour, int toner, int staples) {
            this.isColour = isColour;
            this.blackToner = toner;
            this.colourToner = isColour ? toner : 0;
            this.staples = staples;
        }

        int toner(boolean isOfColour) {
            return isOfColour ? colourToner : blackToner;
        }

        boolean hasTrayWith(char paper) {
            for (Tray tray : trays) {
                if (tray != null && tray.paper == paper) {
                    return true;
                }
            }
            return false;
        }

        int sheetsWith(char paper) {
            int sheets = 0;
            for (Tray tray : trays) {
                if (tray != null && tray.paper == paper) {
                    sheets += tray.sheets;
                }
            }
            return sheets;
        }

        void takeSheets(char paper, int sheets) {
            int left = sheets;
            for (Tray tray : trays) {
                if (tray != null && tray.paper == paper) {
                    int taken = Math.min(left, tray.sheets);
                    tray.sheets -= taken;
                    left -= taken;
                }
            }
        }
    }

    private static final class Job {
        final int number;
        final int user;
        final int copyPages;
        final int allPages;
        char paper = A4;
        boolean isColour = false;
        boolean isDuplex = false;
        boolean isStapled = false;
        boolean isCanceled = false;
        int pagesOut = 0;
        // Kept beside pagesOut so that no remainder, and so no divisor, is needed.
        int pagesOutOfCopy = 0;
        int sheetsOut = 0;
        int copiesStapled = 0;
        // NO_REASON until its first release.
        char stop = NO_REASON;

        Job(int number, int user, int copyPages, int copies) {
            this.number = number;
            this.user = user;
            this.copyPages = copyPages;
            this.allPages = copyPages * copies;
        }

        int pagesToCome() {
            return allPages - pagesOut;
        }

        boolean isHeld() {
            return !isCanceled && pagesToCome() > 0;
        }

        int sheetPages(int outOfCopy) {
            return isDuplex ? Math.min(2, copyPages - outOfCopy) : 1;
        }

        int blackTonerFor(int pages) {
            return isColour ? pages : 2 * pages;
        }

        int colourTonerFor(int pages) {
            return isColour ? 3 * pages : 0;
        }
    }

    /** What a release of a job at a printer would bring out, and the reason that would end it. */
    private static final class Plan {
        boolean hasTray = false;
        int sheetsThere = 0;
        int quota = 0;
        int pages = 0;
        int sheets = 0;
        int pagesOutOfCopy = 0;
        int copySheets = 0;
        boolean isCopyFromStart = false;
        int copiesToStaple = 0;
        char stop = NO_REASON;

        void begin(Job job, Printer printer, User user) {
            hasTray = printer.hasTrayWith(job.paper);
            sheetsThere = printer.sheetsWith(job.paper);
            quota = user.quota(job.isColour);
            pages = 0;
            sheets = 0;
            pagesOutOfCopy = job.pagesOutOfCopy;
            copySheets = 0;
            isCopyFromStart = pagesOutOfCopy == 0;
            copiesToStaple = 0;
        }

        char nextReason(Job job, Printer printer) {
            if (pages >= job.pagesToCome()) {
                return DONE;
            }
            if (job.isCanceled) {
                return CANCELED;
            }
            if (job.isColour && !printer.isColour) {
                return NO_COLOUR;
            }
            if (!hasTray) {
                return NO_TRAY;
            }
            if (sheets >= sheetsThere) {
                return NO_PAPER;
            }
            int needed = pages + job.sheetPages(pagesOutOfCopy);
            if (job.blackTonerFor(needed) > printer.blackToner) {
                return NO_BLACK_TONER;
            }
            if (job.colourTonerFor(needed) > printer.colourToner) {
                return NO_COLOUR_TONER;
            }
            return needed > quota ? NO_QUOTA : NO_REASON;
        }

        void addSheet(Job job) {
            int sheetPages = job.sheetPages(pagesOutOfCopy);
            pages += sheetPages;
            sheets++;
            pagesOutOfCopy += sheetPages;
            copySheets++;
            if (pagesOutOfCopy >= job.copyPages) {
                if (isCopyFromStart && copySheets >= 2) {
                    copiesToStaple++;
                }
                pagesOutOfCopy = 0;
                copySheets = 0;
                isCopyFromStart = true;
            }
        }
    }

    private static final class Entry {
        final int job;
        final int user;
        final int printer;
        int pages = 0;
        int sheets = 0;
        long cost = 0;

        Entry(int job, int user, int printer) {
            this.job = job;
            this.user = user;
            this.printer = printer;
        }
    }
}
