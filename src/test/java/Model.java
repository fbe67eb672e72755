import java.util.ArrayList;
import java.util.List;
import java.util.NoSuchElementException;

/**
 * A second program of the document, for RunsTest: it knows each sheet of a job as an object,
 * brings sheets out one by one, and foresees a release by making it on a copy of all it holds.
 */
final class Model {
    static final class User {
        int[] quota = new int[2];
        int pages;
        long bill;
    }

    static final class Tray {
        char paper;
        int sheets;
    }

    static final class Printer {
        boolean colour;
        int[] toner = new int[2];
        int staples;
        List<Tray> trays = new ArrayList<>();
    }

    record Sheet(int copy, int pages, boolean isFirst, boolean isLast) {
    }

    static final class Job {
        int user;
        int perCopy;
        int copies;
        char paper;
        int sort;
        boolean duplex;
        boolean stapled;
        boolean canceled;
        char stop;
        int out;
        int staplesUsed;
        List<Sheet> sheets = new ArrayList<>();

        int pages(int from, int to) {
            int sum = 0;
            for (int i = from; i < to; i++) {
                sum += sheets.get(i).pages;
            }
            return sum;
        }
    }

    record Entry(int job, int printer, int pages, int sheets, long cost) {
    }

    private final List<User> users = new ArrayList<>();
    private final List<Printer> printers = new ArrayList<>();
    private final List<Job> jobs = new ArrayList<>();
    private final List<Entry> log = new ArrayList<>();
    private int[] prices = {2, 9, 1};
    private String line = "";

    /** The answer of a call, given by name and arguments; exceptions are thrown as documented. */
    Object call(String name, int[] a) {
        switch (name) {
            case "addUser": return addUser(a[0], a[1]);
            case "addPrinter": return addPrinter(a[0] == 1, a[1], a[2]);
            case "addTray": return addTray(a[0], (char) a[1], a[2]);
            case "trayCount": return printer(a[0]).trays.size();
            case "load": return load(a[0], a[1], a[2]);
            case "changePaper": return changePaper(a[0], a[1], (char) a[2]);
            case "sheetsIn": return tray(a[0], a[1]).sheets;
            case "paperOf": return tray(a[0], a[1]).paper;
            case "setToner": return setToner(a[0], a[1], a[2]);
            case "tonerOf": return colourChecked(printer(a[0]), a[1]).toner[a[1]];
            case "setStaples": return setStaples(a[0], a[1]);
            case "staplesIn": return printer(a[0]).staples;
            case "grant": return grant(a[0], a[1], a[2]);
            case "quotaOf": return user(a[0]).quota[a[1]];
            case "setPrices": return setPrices(a);
            case "submit": return submit(a);
            case "setStapled": return setStapled(a[0], a[1] == 1);
            case "cancel": return cancel(a[0]);
            case "stateOf": return state(job(a[0]));
            case "pagesLeft": return left(job(a[0]));
            case "sheetsOut": return job(a[0]).out;
            case "stapledCopies": return job(a[0]).staplesUsed;
            case "reasonFor": return reason(job(a[0]), printer(a[1]));
            case "wouldPrint": return wouldPrint(a[0], a[1]);
            case "release": return release(a[0], a[1]);
            case "releaseAll": return releaseAll(a[0], a[1]);
            case "stopOf": return stopOf(a[0]);
            case "bestPrinter": return bestPrinter(a[0]);
            case "queueLength": return queue(a[0]).size();
            case "queueAt": return queueAt(a[0], a[1]);
            case "logSize": return log.size();
            case "logJob": return entry(a[0]).job;
            case "logPrinter": return entry(a[0]).printer;
            case "logPages": return entry(a[0]).pages;
            case "logSheets": return entry(a[0]).sheets;
            case "pagesOf": return user(a[0]).pages;
            case "pagesByLog": return pagesByLog(a[0]);
            case "billOf": return user(a[0]).bill;
            case "billByLog": return billByLog(a[0]);
            case "meanPages": return meanPages();
            case "colourShare": return colourShare();
            case "isConsistent": return true;
            case "writeJob": return writeJob(a[0]);
            case "lineAt": return line.charAt(in(a[0], line.length()));
            default: throw new AssertionError(name);
        }
    }

    private static int in(int index, int size) {
        if (index < 0 || index >= size) {
            throw new IndexOutOfBoundsException();
        }
        return index;
    }

    private static void range(boolean isRight) {
        if (!isRight) {
            throw new IllegalArgumentException();
        }
    }

    private static void paper(char paper) {
        range("abl".indexOf(paper) >= 0);
    }

    private static void state(boolean isRight) {
        if (!isRight) {
            throw new IllegalStateException();
        }
    }

    private User user(int user) {
        return users.get(in(user, users.size()));
    }

    private Printer printer(int printer) {
        return printers.get(in(printer, printers.size()));
    }

    private Tray tray(int printer, int tray) {
        return printer(printer).trays.get(in(tray, printer(printer).trays.size()));
    }

    private Job job(int job) {
        return jobs.get(in(job, jobs.size()));
    }

    private Entry entry(int entry) {
        return log.get(in(entry, log.size()));
    }

    private static Printer colourChecked(Printer printer, int sort) {
        if (sort == 1 && !printer.colour) {
            throw new UnsupportedOperationException();
        }
        return printer;
    }

    private int addUser(int mono, int colour) {
        range(mono >= 0 && mono <= 999 && colour >= 0 && colour <= 999);
        state(users.size() < 6);
        User user = new User();
        user.quota = new int[] {mono, colour};
        users.add(user);
        return users.size() - 1;
    }

    private int addPrinter(boolean colour, int toner, int staples) {
        range(toner >= 0 && toner <= 1000 && staples >= 0 && staples <= 100);
        state(printers.size() < 4);
        Printer printer = new Printer();
        printer.colour = colour;
        printer.toner = new int[] {toner, toner};
        printer.staples = staples;
        printers.add(printer);
        return printers.size() - 1;
    }

    private int addTray(int printer, char paper, int sheets) {
        List<Tray> trays = printer(printer).trays;
        paper(paper);
        range(sheets >= 0 && sheets <= 500);
        state(trays.size() < 3);
        Tray tray = new Tray();
        tray.paper = paper;
        tray.sheets = sheets;
        trays.add(tray);
        return trays.size() - 1;
    }

    private int load(int printer, int number, int sheets) {
        Tray tray = tray(printer, number);
        range(sheets >= 1 && sheets <= 500);
        state(tray.sheets + sheets <= 500);
        return tray.sheets += sheets;
    }

    private char changePaper(int printer, int number, char paper) {
        Tray tray = tray(printer, number);
        paper(paper);
        state(tray.sheets == 0);
        char before = tray.paper;
        tray.paper = paper;
        return before;
    }

    private int setToner(int number, int sort, int units) {
        Printer printer = printer(number);
        range(units >= 0 && units <= 1000);
        int before = colourChecked(printer, sort).toner[sort];
        printer.toner[sort] = units;
        return before;
    }

    private int setStaples(int number, int staples) {
        Printer printer = printer(number);
        range(staples >= 0 && staples <= 100);
        int before = printer.staples;
        printer.staples = staples;
        return before;
    }

    private int grant(int number, int sort, int pages) {
        User user = user(number);
        range(pages >= 1 && pages <= 999);
        state(user.quota[sort] + pages <= 9999);
        return user.quota[sort] += pages;
    }

    private int setPrices(int[] due) {
        for (int price : due) {
            range(price >= 0 && price <= 99);
        }
        int before = prices[0];
        prices = due.clone();
        return before;
    }

    private int submit(int[] a) {
        user(a[0]);
        range(a[1] >= 1 && a[1] <= 100 && a[2] >= 1 && a[2] <= 9);
        paper((char) a[3]);
        state(jobs.size() < 40);
        Job job = new Job();
        job.user = a[0];
        job.perCopy = a[1];
        job.copies = a[2];
        job.paper = (char) a[3];
        job.sort = a[4];
        job.duplex = a[5] == 1;
        for (int copy = 0; copy < job.copies; copy++) {
            int size = job.duplex ? 2 : 1;
            for (int page = 0; page < job.perCopy; page += size) {
                int pages = Math.min(size, job.perCopy - page);
                job.sheets.add(new Sheet(copy, pages, page == 0, page + size >= job.perCopy));
            }
        }
        jobs.add(job);
        return jobs.size() - 1;
    }

    private boolean setStapled(int number, boolean stapled) {
        Job job = job(number);
        boolean before = job.stapled;
        job.stapled = stapled;
        return before;
    }

    private int cancel(int number) {
        Job job = job(number);
        state(state(job) == 'h' || state(job) == 'p');
        job.canceled = true;
        return left(job);
    }

    private static char state(Job job) {
        if (job.canceled) {
            return 'x';
        }
        if (job.out == job.sheets.size()) {
            return 'd';
        }
        return job.out > 0 ? 'p' : 'h';
    }

    private static int left(Job job) {
        return job.pages(job.out, job.sheets.size());
    }

    private char reason(Job job, Printer printer) {
        char state = state(job);
        if (state == 'd' || state == 'x') {
            return state;
        }
        if (job.sort == 1 && !printer.colour) {
            return 'n';
        }
        List<Tray> right = new ArrayList<>(printer.trays);
        right.removeIf(tray -> tray.paper != job.paper);
        if (right.isEmpty()) {
            return 'k';
        }
        right.removeIf(tray -> tray.sheets == 0);
        if (right.isEmpty()) {
            return 'p';
        }
        int pages = job.sheets.get(job.out).pages;
        if (printer.toner[0] < pages * (job.sort == 1 ? 1 : 2)) {
            return 't';
        }
        if (job.sort == 1 && printer.toner[1] < pages * 3) {
            return 'c';
        }
        return users.get(job.user).quota[job.sort] < pages ? 'q' : '-';
    }

    /** Brings out one sheet, for which there must be no reason, and returns its cost. */
    private long sheetOut(Job job, Printer printer, int firstOfRelease) {
        Sheet sheet = job.sheets.get(job.out);
        for (Tray tray : printer.trays) {
            if (tray.paper == job.paper && tray.sheets > 0) {
                tray.sheets--;
                break;
            }
        }
        printer.toner[0] -= sheet.pages * (job.sort == 1 ? 1 : 2);
        printer.toner[1] -= sheet.pages * (job.sort == 1 ? 3 : 0);
        User user = users.get(job.user);
        user.quota[job.sort] -= sheet.pages;
        user.pages += sheet.pages;
        long cost = (long) sheet.pages * prices[job.sort] + prices[2];
        user.bill += cost;
        if (sheet.isLast && !sheet.isFirst && job.stapled && printer.staples > 0
                && firstSheetOf(job, sheet.copy) >= firstOfRelease) {
            printer.staples--;
            job.staplesUsed++;
        }
        job.out++;
        return cost;
    }

    private static int firstSheetOf(Job job, int copy) {
        int first = 0;
        while (job.sheets.get(first).copy != copy) {
            first++;
        }
        return first;
    }

    private int release(int number, int printerNumber) {
        Job job = job(number);
        Printer printer = printer(printerNumber);
        if (reason(job, printer) != '-') {
            throw new UnsupportedOperationException();
        }
        int first = job.out;
        long cost = 0;
        while (reason(job, printer) == '-') {
            cost += sheetOut(job, printer, first);
        }
        job.stop = reason(job, printer);
        int pages = job.pages(first, job.out);
        log.add(new Entry(number, printerNumber, pages, job.out - first, cost));
        return pages;
    }

    private int releaseAll(int user, int printer) {
        user(user);
        printer(printer);
        int done = 0;
        for (int number = 0; number < jobs.size(); number++) {
            if (jobs.get(number).user == user && reason(jobs.get(number), printer(printer)) == '-') {
                release(number, printer);
                done += state(jobs.get(number)) == 'd' ? 1 : 0;
            }
        }
        return done;
    }

    private int wouldPrint(int job, int printer) {
        job(job);
        printer(printer);
        try {
            return copy().release(job, printer);
        } catch (UnsupportedOperationException none) {
            return 0;
        }
    }

    private char stopOf(int number) {
        Job job = job(number);
        if (job.stop == 0) {
            throw new NoSuchElementException();
        }
        return job.stop;
    }

    private int bestPrinter(int job) {
        job(job);
        int best = -1;
        for (int printer = printers.size() - 1; printer >= 0; printer--) {
            int pages = wouldPrint(job, printer);
            if (pages > 0 && (best < 0 || pages >= wouldPrint(job, best))) {
                best = printer;
            }
        }
        if (best < 0) {
            throw new NoSuchElementException();
        }
        return best;
    }

    private List<Integer> queue(int printer) {
        printer(printer);
        List<Integer> first = new ArrayList<>();
        List<Integer> others = new ArrayList<>();
        for (int job = 0; job < jobs.size(); job++) {
            if (reason(jobs.get(job), printer(printer)) == '-') {
                Model after = copy();
                after.release(job, printer);
                (state(after.job(job)) == 'd' ? first : others).add(job);
            }
        }
        first.addAll(others);
        return first;
    }

    private int queueAt(int printer, int position) {
        List<Integer> queue = queue(printer);
        if (position < 0 || position >= queue.size()) {
            throw new NoSuchElementException();
        }
        return queue.get(position);
    }

    private int pagesByLog(int user) {
        user(user);
        return log.stream().filter(e -> jobs.get(e.job).user == user).mapToInt(Entry::pages).sum();
    }

    private long billByLog(int user) {
        user(user);
        return log.stream().filter(e -> jobs.get(e.job).user == user).mapToLong(Entry::cost).sum();
    }

    private double meanPages() {
        if (log.isEmpty()) {
            throw new ArithmeticException();
        }
        return (double) log.stream().mapToInt(Entry::pages).sum() / (double) log.size();
    }

    private float colourShare() {
        int all = log.stream().mapToInt(Entry::pages).sum();
        int colour = log.stream().filter(e -> jobs.get(e.job).sort == 1).mapToInt(Entry::pages).sum();
        if (all == 0) {
            throw new ArithmeticException();
        }
        return (float) colour / (float) all;
    }

    private int writeJob(int number) {
        Job job = job(number);
        String[] names = {"a4", "a3", "letter"};
        line = number + ": " + job.pages(0, job.out) + "/" + job.perCopy * job.copies + " "
            + names["abl".indexOf(job.paper)] + (job.sort == 1 ? " colour" : "")
            + (job.duplex ? " duplex" : "") + (job.stapled ? " stapled" : "");
        return line.length();
    }

    private Model copy() {
        Model copy = new Model();
        copy.prices = prices.clone();
        for (User user : users) {
            User same = new User();
            same.quota = user.quota.clone();
            copy.users.add(same);
        }
        for (Printer printer : printers) {
            Printer same = new Printer();
            same.colour = printer.colour;
            same.toner = printer.toner.clone();
            same.staples = printer.staples;
            for (Tray tray : printer.trays) {
                Tray sameTray = new Tray();
                sameTray.paper = tray.paper;
                sameTray.sheets = tray.sheets;
                same.trays.add(sameTray);
            }
            copy.printers.add(same);
        }
        for (Job job : jobs) {
            Job same = new Job();
            same.user = job.user;
            same.paper = job.paper;
            same.sort = job.sort;
            same.canceled = job.canceled;
            same.stapled = job.stapled;
            same.out = job.out;
            same.sheets = job.sheets;
            copy.jobs.add(same);
        }
        return copy;
    }
}
