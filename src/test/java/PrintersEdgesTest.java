import java.util.function.Supplier;

/** Promises 1 to 16 at their edges, and the terms they rest on: users, printers and trays. */
public final class PrintersEdgesTest {
    private static final Edges EDGES = new Edges();

    public static void main(String[] args) {
        newObject();
        firstPrices();
        addUser();
        addPrinter();
        addTray();
        trayCount();
        load();
        changePaper();
        sheetsInAndPaperOf();
        setToner();
        tonerOf();
        setStaplesAndStaplesIn();
        grant();
        quotaOf();
        setPrices();
        EDGES.end("PrintersEdgesTest");
    }

    // Promise 1
    private static void newObject() {
        Supplier<SpoolFarm> made = SpoolFarm::new;
        EDGES.due("1 new: the first user is 0", made, x -> x.addUser(1, 1), 0);
        EDGES.due("1 new: the first printer is 0", made, x -> x.addPrinter(true, 1, 1), 0);
        EDGES.due("1 new: the log is empty", made, x -> x.logSize(), 0);
        EDGES.due("1 new: it is consistent", made, x -> x.isConsistent(), true);
        EDGES.refused("1 new: no user", Edges.INDEX, made, x -> x.quotaOf(0, false));
        EDGES.refused("1 new: no printer", Edges.INDEX, made, x -> x.trayCount(0));
        EDGES.refused("1 new: no job", Edges.INDEX, made, x -> x.stateOf(0));
        EDGES.refused("1 new: no character", Edges.INDEX, made, x -> x.lineAt(0));
        Supplier<SpoolFarm> second = () -> {
            SpoolFarm first = Farms.with(6, 4, 40).get();
            first.setPrices(50, 51, 52);
            first.writeJob(0);
            return new SpoolFarm();
        };
        EDGES.due("1 new: shares no users", second, x -> x.addUser(1, 1), 0);
        EDGES.due("1 new: shares no printers", second, x -> x.addPrinter(true, 1, 1), 0);
        EDGES.due("1 new: shares no prices", second, x -> x.setPrices(0, 0, 0), 2);
        EDGES.refused("1 new: shares no line", Edges.INDEX, second, x -> x.lineAt(0));
    }

    // Terms, Users: the prices at first
    private static void firstPrices() {
        EDGES.due("16 at first a mono page costs 2", SpoolFarm::new, x -> x.setPrices(0, 0, 0), 2);
        EDGES.due("16 at first a mono page and a sheet cost 3", Farms.job(1, 1, false, false), x -> {
            x.release(0, 0);
            return x.billOf(0);
        }, 3L);
        EDGES.due("16 at first a colour page and a sheet cost 10", Farms.job(1, 1, true, false), x -> {
            x.release(0, 0);
            return x.billOf(0);
        }, 10L);
        EDGES.due("16 at first two mono pages and a sheet cost 5", Farms.job(2, 1, false, true), x -> {
            x.release(0, 0);
            return x.billOf(0);
        }, 5L);
    }

    // Promise 2
    private static void addUser() {
        Supplier<SpoolFarm> five = Farms.with(5, 1, 1);
        Supplier<SpoolFarm> six = Farms.with(6, 1, 1);
        EDGES.range("2 addUser, mono", 0, 999, five, (x, mono) -> {
            x.addUser(mono, 5);
            return x.quotaOf(5, false);
        }, mono -> mono);
        EDGES.range("2 addUser, colour", 0, 999, five, (x, colour) -> {
            x.addUser(5, colour);
            return x.quotaOf(5, true);
        }, colour -> colour);
        EDGES.due("2 addUser, both the most", five, x -> x.addUser(999, 999), 5);
        EDGES.due("2 addUser, both the least", five, x -> x.addUser(0, 0), 5);
        EDGES.due("2 addUser, no mono page by colour ones", five, x -> {
            x.addUser(0, 999);
            return x.quotaOf(5, false);
        }, 0);
        for (int user = 0; user < 6; user++) {
            EDGES.due("2 addUser number " + user, Farms.with(user, 1, 0), x -> x.addUser(7, 7), user);
        }
        EDGES.refused("2 addUser, a 7th", Edges.STATE, six, x -> x.addUser(1, 1));
        EDGES.refused("2 addUser, a 7th of nothing", Edges.STATE, six, x -> x.addUser(0, 0));
        EDGES.outOfRange("2 addUser, a 7th, mono first", 0, 999, Edges.ARGUMENT, six, (x, mono) -> x.addUser(mono, 5));
        EDGES.outOfRange("2 addUser, a 7th, colour first", 0, 999, Edges.ARGUMENT, six,
            (x, colour) -> x.addUser(5, colour));
        EDGES.due("2 addUser, a refused one takes no number", five, x -> {
            Refusals.of(() -> x.addUser(1000, 0));
            return x.addUser(1, 1);
        }, 5);
    }

    // Promise 3
    private static void addPrinter() {
        Supplier<SpoolFarm> three = Farms.with(1, 3, 1);
        Supplier<SpoolFarm> four = Farms.with(1, 4, 1);
        EDGES.range("3 addPrinter, black toner", 0, 1000, three, (x, toner) -> {
            x.addPrinter(true, toner, 5);
            return x.tonerOf(3, false);
        }, toner -> toner);
        EDGES.range("3 addPrinter, colour toner", 0, 1000, three, (x, toner) -> {
            x.addPrinter(true, toner, 5);
            return x.tonerOf(3, true);
        }, toner -> toner);
        EDGES.range("3 addPrinter, toner of a mono one", 0, 1000, three, (x, toner) -> {
            x.addPrinter(false, toner, 5);
            return x.tonerOf(3, false);
        }, toner -> toner);
        EDGES.range("3 addPrinter, staples", 0, 100, three, (x, staples) -> {
            x.addPrinter(true, 5, staples);
            return x.staplesIn(3);
        }, staples -> staples);
        EDGES.due("3 addPrinter, both the most", three, x -> x.addPrinter(true, 1000, 100), 3);
        EDGES.due("3 addPrinter, both the least", three, x -> x.addPrinter(false, 0, 0), 3);
        EDGES.due("3 addPrinter, without trays", three, x -> x.trayCount(x.addPrinter(true, 9, 9)), 0);
        EDGES.refused("3 addPrinter, a mono one has no colour toner", Edges.UNSUPPORTED,
            Farms.after(three, x -> x.addPrinter(false, 9, 9)), x -> x.tonerOf(3, true));
        for (int printer = 0; printer < 4; printer++) {
            EDGES.due("3 addPrinter number " + printer, Farms.with(1, printer, 1), x -> x.addPrinter(true, 7, 7),
                printer);
        }
        EDGES.refused("3 addPrinter, a 5th", Edges.STATE, four, x -> x.addPrinter(true, 1, 1));
        EDGES.refused("3 addPrinter, a 5th of mono", Edges.STATE, four, x -> x.addPrinter(false, 0, 0));
        EDGES.outOfRange("3 addPrinter, a 5th, toner first", 0, 1000, Edges.ARGUMENT, four,
            (x, toner) -> x.addPrinter(true, toner, 5));
        EDGES.outOfRange("3 addPrinter, a 5th, staples first", 0, 100, Edges.ARGUMENT, four,
            (x, staples) -> x.addPrinter(true, 5, staples));
        EDGES.due("3 addPrinter, a refused one takes no number", three, x -> {
            Refusals.of(() -> x.addPrinter(true, 1001, 0));
            return x.addPrinter(true, 1, 1);
        }, 3);
    }

    // Promise 4
    private static void addTray() {
        Supplier<SpoolFarm> two = Farms.trays(2);
        Supplier<SpoolFarm> three = Farms.trays(3);
        EDGES.range("4 addTray, sheets", 0, 500, two, (x, sheets) -> {
            x.addTray(0, 'a', sheets);
            return x.sheetsIn(0, 2);
        }, sheets -> sheets);
        EDGES.papers("4 addTray", two, (x, paper) -> {
            x.addTray(0, (char) paper, 5);
            return x.paperOf(0, 2);
        });
        for (int there = 1; there < 5; there++) {
            Supplier<SpoolFarm> printers = Farms.after(SpoolFarm::new, x -> { });
            for (int printer = 0; printer < there; printer++) {
                printers = Farms.after(printers, x -> x.addPrinter(true, 10, 10));
            }
            EDGES.numbers("4 addTray, printer", Edges.INDEX, there, printers, (x, printer) -> x.addTray(printer, 'a', 9),
                printer -> 0);
        }
        EDGES.outOfRange("4 addTray, no printer at all", 0, -1, Edges.INDEX, SpoolFarm::new,
            (x, printer) -> x.addTray(printer, 'a', 9));
        for (int tray = 0; tray < 3; tray++) {
            EDGES.due("4 addTray number " + tray, Farms.trays(tray), x -> x.addTray(0, 'b', 7), tray);
        }
        EDGES.due("4 addTray, beside a printer with 3", three, x -> x.addTray(1, 'a', 7), 0);
        EDGES.due("4 addTray, with the same paper", Farms.trays(1), x -> x.addTray(0, 'a', 7), 1);
        EDGES.refused("4 addTray, a 4th", Edges.STATE, three, x -> x.addTray(0, 'a', 1));
        EDGES.refused("4 addTray, a 4th of nothing", Edges.STATE, three, x -> x.addTray(0, 'l', 0));
        EDGES.outOfRange("4 addTray, a 4th, sheets first", 0, 500, Edges.ARGUMENT, three,
            (x, sheets) -> x.addTray(0, 'a', sheets));
        EDGES.noPapers("4 addTray, a 4th, paper first", three, (x, paper) -> x.addTray(0, (char) paper, 5));
        EDGES.refused("4 addTray, no printer before no paper", Edges.INDEX, two, x -> x.addTray(2, 'z', 5));
        EDGES.refused("4 addTray, no printer before sheets", Edges.INDEX, two, x -> x.addTray(2, 'a', 501));
        EDGES.refused("4 addTray, no printer before both", Edges.INDEX, two, x -> x.addTray(-1, 'z', -1));
        EDGES.refused("4 addTray, no paper and sheets", Edges.ARGUMENT, two, x -> x.addTray(0, 'z', 501));
        EDGES.due("4 addTray, a refused one takes no number", two, x -> {
            Refusals.of(() -> x.addTray(0, 'a', 501));
            return x.addTray(0, 'a', 1);
        }, 2);
    }

    // Promise 5
    private static void trayCount() {
        EDGES.printers("5 trayCount", (x, printer) -> x.trayCount(printer), printer -> 3);
        for (int trays = 0; trays < 4; trays++) {
            EDGES.due("5 trayCount " + trays, Farms.trays(trays), x -> x.trayCount(0), trays);
            EDGES.due("5 trayCount beside " + trays, Farms.trays(trays), x -> x.trayCount(1), 0);
        }
    }

    private static void noTray(String what, Edges.NumberCall ofTray) {
        for (int trays = 0; trays < 4; trays++) {
            EDGES.outOfRange(what + ", tray of " + trays, 0, trays - 1, Edges.INDEX, Farms.trays(trays), ofTray);
        }
    }

    // Promise 6
    private static void load() {
        EDGES.range("6 load an empty tray", 1, 500, Farms.trays(1), (x, sheets) -> x.load(0, 0, sheets),
            sheets -> sheets);
        EDGES.range("6 load, seen by sheetsIn", 1, 500, Farms.trays(3), (x, sheets) -> {
            x.load(0, 2, sheets);
            return x.sheetsIn(0, 2);
        }, sheets -> sheets);
        EDGES.printers("6 load", (x, printer) -> x.load(printer, 0, 1), printer -> 31 + printer);
        for (int tray = 0; tray < 3; tray++) {
            int number = tray;
            EDGES.due("6 load, last tray " + tray, Farms.trays(tray + 1), x -> x.load(0, number, 8), 8);
        }
        noTray("6 load", (x, tray) -> x.load(0, tray, 1));
        noTray("6 load, no tray before the number", (x, tray) -> x.load(0, tray, 501));
        EDGES.refused("6 load, no printer before the number", Edges.INDEX, Farms.trays(1), x -> x.load(2, 0, 0));
        EDGES.refused("6 load, no printer before the number, below", Edges.INDEX, Farms.trays(1),
            x -> x.load(-1, 0, 501));
        EDGES.due("6 load, 1 up to 500", tray(499), x -> x.load(0, 0, 1), 500);
        EDGES.due("6 load, 499 up to 500", tray(1), x -> x.load(0, 0, 499), 500);
        EDGES.due("6 load, 250 up to 500", tray(250), x -> x.load(0, 0, 250), 500);
        EDGES.refused("6 load, 2 up to 501", Edges.STATE, tray(499), x -> x.load(0, 0, 2));
        EDGES.refused("6 load, 500 up to 501", Edges.STATE, tray(1), x -> x.load(0, 0, 500));
        EDGES.refused("6 load, 1 up to 501", Edges.STATE, tray(500), x -> x.load(0, 0, 1));
        EDGES.refused("6 load, 500 up to 1000", Edges.STATE, tray(500), x -> x.load(0, 0, 500));
        EDGES.outOfRange("6 load a full tray, the number first", 1, 500, Edges.ARGUMENT, tray(500),
            (x, sheets) -> x.load(0, 0, sheets));
        EDGES.outOfRange("6 load a tray of 499, the number first", 1, 500, Edges.ARGUMENT, tray(499),
            (x, sheets) -> x.load(0, 0, sheets));
        EDGES.due("6 load, a full tray beside", Farms.after(tray(500), x -> x.addTray(0, 'a', 0)),
            x -> x.load(0, 1, 500), 500);
        EDGES.due("6 load, in two calls up to 500", tray(0), x -> {
            x.load(0, 0, 300);
            return x.load(0, 0, 200);
        }, 500);
        EDGES.due("6 load, again after sheets came out", Farms.job(1, 1, false, false), x -> {
            x.release(0, 0);
            return x.load(0, 0, 1);
        }, 500);
        EDGES.refused("6 load, more than came out", Edges.STATE,
            Farms.after(Farms.job(1, 1, false, false), x -> x.release(0, 0)), x -> x.load(0, 0, 2));
    }

    /** A printer with one tray of a4, and a job of 3 colour pages for it. */
    private static Supplier<SpoolFarm> tray(int sheets) {
        return Farms.after(Farms.office(20, 30, 5, sheets), x -> x.submit(0, 3, 1, 'a', true, false));
    }

    // Promise 7
    private static void changePaper() {
        EDGES.papers("7 changePaper", Farms.trays(1), (x, paper) -> {
            x.changePaper(0, 0, (char) paper);
            return x.paperOf(0, 0);
        });
        EDGES.noPapers("7 changePaper, no paper before not empty", tray(1),
            (x, paper) -> x.changePaper(0, 0, (char) paper));
        EDGES.printers("7 changePaper", (x, printer) -> x.changePaper(printer, 1, 'l'), printer -> 'b');
        for (int tray = 0; tray < 3; tray++) {
            int number = tray;
            EDGES.due("7 changePaper, the paper before of the last tray " + tray, Farms.trays(tray + 1),
                x -> x.changePaper(0, number, 'a'), "abl".charAt(tray));
        }
        noTray("7 changePaper", (x, tray) -> x.changePaper(0, tray, 'a'));
        noTray("7 changePaper, no tray before no paper", (x, tray) -> x.changePaper(0, tray, 'z'));
        EDGES.refused("7 changePaper, no printer before no paper", Edges.INDEX, Farms.trays(1),
            x -> x.changePaper(2, 0, 'z'));
        EDGES.due("7 changePaper, no sheet", tray(0), x -> x.changePaper(0, 0, 'b'), 'a');
        EDGES.refused("7 changePaper, 1 sheet", Edges.STATE, tray(1), x -> x.changePaper(0, 0, 'b'));
        EDGES.refused("7 changePaper, 500 sheets", Edges.STATE, tray(500), x -> x.changePaper(0, 0, 'b'));
        EDGES.refused("7 changePaper, 1 sheet and the same paper", Edges.STATE, tray(1),
            x -> x.changePaper(0, 0, 'a'));
        EDGES.due("7 changePaper, the last sheet came out", Farms.after(tray(3), x -> x.release(0, 0)),
            x -> x.changePaper(0, 0, 'l'), 'a');
        EDGES.refused("7 changePaper, the last but one came out", Edges.STATE,
            Farms.after(tray(4), x -> x.release(0, 0)), x -> x.changePaper(0, 0, 'l'));
        EDGES.due("7 changePaper, trays beside stay", Farms.trays(3), x -> {
            x.changePaper(0, 1, 'l');
            return "" + x.paperOf(0, 0) + x.paperOf(0, 1) + x.paperOf(0, 2);
        }, "all");
    }

    // Promises 8 and 9
    private static void sheetsInAndPaperOf() {
        EDGES.printers("8 sheetsIn", (x, printer) -> x.sheetsIn(printer, 0), printer -> 30 + printer);
        EDGES.printers("9 paperOf", (x, printer) -> x.paperOf(printer, 2), printer -> 'l');
        noTray("8 sheetsIn", (x, tray) -> x.sheetsIn(0, tray));
        noTray("9 paperOf", (x, tray) -> x.paperOf(0, tray));
        for (int tray = 0; tray < 3; tray++) {
            int number = tray;
            EDGES.due("8 sheetsIn, last tray " + tray, Farms.trays(tray + 1), x -> x.sheetsIn(0, number), 0);
            EDGES.due("9 paperOf, last tray " + tray, Farms.trays(tray + 1), x -> x.paperOf(0, number),
                "abl".charAt(tray));
        }
        EDGES.refused("8 sheetsIn, a tray of the printer beside", Edges.INDEX, Farms.trays(3), x -> x.sheetsIn(1, 0));
        EDGES.refused("9 paperOf, a tray of the printer beside", Edges.INDEX, Farms.trays(3), x -> x.paperOf(1, 0));
        for (int sheets : new int[] {0, 1, 499, 500}) {
            EDGES.due("8 sheetsIn, " + sheets, tray(sheets), x -> x.sheetsIn(0, 0), sheets);
        }
        EDGES.due("8 sheetsIn, the last one came out", Farms.after(tray(3), x -> x.release(0, 0)),
            x -> x.sheetsIn(0, 0), 0);
        EDGES.due("8 sheetsIn, all but one came out", Farms.after(tray(4), x -> x.release(0, 0)),
            x -> x.sheetsIn(0, 0), 1);
    }

    // Promise 10
    private static void setToner() {
        Supplier<SpoolFarm> two = Farms.with(1, 2, 2);
        EDGES.range("10 setToner, black", 0, 1000, two, (x, units) -> {
            x.setToner(0, false, units);
            return x.tonerOf(0, false);
        }, units -> units);
        EDGES.range("10 setToner, colour", 0, 1000, two, (x, units) -> {
            x.setToner(0, true, units);
            return x.tonerOf(0, true);
        }, units -> units);
        EDGES.range("10 setToner, black of a mono printer", 0, 1000, two, (x, units) -> {
            x.setToner(1, false, units);
            return x.tonerOf(1, false);
        }, units -> units);
        EDGES.range("10 setToner, black before", 0, 1000, two, (x, units) -> x.setToner(0, false, units), units -> 300);
        EDGES.range("10 setToner, colour before", 0, 1000, two, (x, units) -> x.setToner(0, true, units), units -> 300);
        EDGES.printers("10 setToner", (x, printer) -> x.setToner(printer, false, 1), printer -> 300 + printer);
        EDGES.outOfRange("10 setToner, no printer before the number", 0, 1, Edges.INDEX, two,
            (x, printer) -> x.setToner(printer, false, 1001));
        EDGES.outOfRange("10 setToner, no printer before no colour", 0, 1, Edges.INDEX, two,
            (x, printer) -> x.setToner(printer, true, 1));
        EDGES.outOfRange("10 setToner, the number before no colour", 0, 1000, Edges.ARGUMENT, two,
            (x, units) -> x.setToner(1, true, units));
        EDGES.refused("10 setToner, no colour, the least", Edges.UNSUPPORTED, two, x -> x.setToner(1, true, 0));
        EDGES.refused("10 setToner, no colour, the most", Edges.UNSUPPORTED, two, x -> x.setToner(1, true, 1000));
        EDGES.due("10 setToner, colour leaves black", two, x -> {
            x.setToner(0, true, 1);
            return x.tonerOf(0, false);
        }, 300);
        EDGES.due("10 setToner, black leaves colour", two, x -> {
            x.setToner(0, false, 1);
            return x.tonerOf(0, true);
        }, 300);
        EDGES.due("10 setToner, the most before", two, x -> {
            x.setToner(0, true, 1000);
            return x.setToner(0, true, 0);
        }, 1000);
        EDGES.due("10 setToner, the least before", two, x -> {
            x.setToner(0, true, 0);
            return x.setToner(0, true, 1000);
        }, 0);
    }

    // Promise 11
    private static void tonerOf() {
        Supplier<SpoolFarm> two = Farms.with(1, 2, 2);
        EDGES.printers("11 tonerOf, black", (x, printer) -> x.tonerOf(printer, false), printer -> 300 + printer);
        EDGES.due("11 tonerOf, colour of the first", Farms.with(1, 4, 1), x -> x.tonerOf(0, true), 300);
        EDGES.due("11 tonerOf, colour of the third", Farms.with(1, 4, 1), x -> x.tonerOf(2, true), 302);
        for (int there : new int[] {0, 1, 3, 4}) {
            EDGES.outOfRange("11 tonerOf, colour of no printer of " + there, 0, there - 1, Edges.INDEX,
                Farms.with(1, there, 1), (x, printer) -> x.tonerOf(printer, true));
        }
        EDGES.refused("11 tonerOf, colour of a mono printer", Edges.UNSUPPORTED, two, x -> x.tonerOf(1, true));
        EDGES.due("11 tonerOf, black of a mono printer", two, x -> x.tonerOf(1, false), 301);
        EDGES.due("11 tonerOf, black used up", Farms.after(two, x -> {
            x.setToner(0, false, 2);
            x.release(0, 0);
        }), x -> x.tonerOf(0, false), 0);
        EDGES.due("11 tonerOf, one unit is left", Farms.after(two, x -> {
            x.setToner(0, false, 3);
            x.release(1, 0);
        }), x -> x.tonerOf(0, false), 1);
        EDGES.due("11 tonerOf, colour used up", Farms.after(Farms.job(1, 1, true, false), x -> {
            x.setToner(0, true, 3);
            x.release(0, 0);
        }), x -> x.tonerOf(0, true), 0);
        EDGES.due("11 tonerOf, two units of colour are left", Farms.after(Farms.job(2, 1, true, false), x -> {
            x.setToner(0, true, 5);
            x.release(0, 0);
        }), x -> x.tonerOf(0, true), 2);
    }

    // Promises 12 and 13
    private static void setStaplesAndStaplesIn() {
        Supplier<SpoolFarm> two = Farms.with(1, 2, 2);
        EDGES.range("12 setStaples", 0, 100, two, (x, staples) -> {
            x.setStaples(1, staples);
            return x.staplesIn(1);
        }, staples -> staples);
        EDGES.range("12 setStaples, before", 0, 100, two, (x, staples) -> x.setStaples(1, staples), staples -> 21);
        EDGES.printers("12 setStaples", (x, printer) -> x.setStaples(printer, 1), printer -> 20 + printer);
        EDGES.outOfRange("12 setStaples, no printer before the number above", 0, 1, Edges.INDEX, two,
            (x, printer) -> x.setStaples(printer, 101));
        EDGES.outOfRange("12 setStaples, no printer before the number below", 0, 1, Edges.INDEX, two,
            (x, printer) -> x.setStaples(printer, -1));
        EDGES.due("12 setStaples, the printer beside stays", two, x -> {
            x.setStaples(1, 100);
            return x.staplesIn(0);
        }, 20);
        EDGES.printers("13 staplesIn", (x, printer) -> x.staplesIn(printer), printer -> 20 + printer);
        EDGES.due("13 staplesIn, the last one was taken", Farms.after(Farms.stapledJob(2, 3, false), x -> {
            x.setStaples(0, 3);
            x.release(0, 0);
        }), x -> x.staplesIn(0), 0);
        EDGES.due("13 staplesIn, all but one were taken", Farms.after(Farms.stapledJob(2, 3, false), x -> {
            x.setStaples(0, 4);
            x.release(0, 0);
        }), x -> x.staplesIn(0), 1);
        EDGES.due("13 staplesIn, there were too few", Farms.after(Farms.stapledJob(2, 3, false), x -> {
            x.setStaples(0, 2);
            x.release(0, 0);
        }), x -> x.staplesIn(0), 0);
    }

    // Promise 14
    private static void grant() {
        for (boolean isColour : new boolean[] {false, true}) {
            String what = isColour ? "14 grant, colour" : "14 grant, mono";
            Supplier<SpoolFarm> rich = rich(isColour);
            EDGES.users(what, (x, user) -> x.grant(user, isColour, 1), user -> (isColour ? 201 : 101) + user);
            EDGES.range(what + ", pages", 1, 999, Farms.office(0, 10, 1, 9), (x, pages) -> x.grant(0, isColour, pages),
                pages -> pages);
            EDGES.range(what + ", seen by quotaOf", 1, 999, Farms.office(999, 10, 1, 9), (x, pages) -> {
                x.grant(0, isColour, pages);
                return x.quotaOf(0, isColour);
            }, pages -> 999 + pages);
            EDGES.due(what + ", up to 9999 by 9", rich, x -> x.grant(0, isColour, 9), 9999);
            EDGES.refused(what + ", up to 10000 by 10", Edges.STATE, rich, x -> x.grant(0, isColour, 10));
            EDGES.refused(what + ", above 9999 by 999", Edges.STATE, rich, x -> x.grant(0, isColour, 999));
            EDGES.due(what + ", up to 9999 by 999", Farms.after(poor(isColour), x -> x.grant(0, isColour, 9)),
                x -> x.grant(0, isColour, 999), 9999);
            EDGES.refused(what + ", up to 10000 by 999", Edges.STATE,
                Farms.after(poor(isColour), x -> x.grant(0, isColour, 10)), x -> x.grant(0, isColour, 999));
            EDGES.refused(what + ", up to 10000 by 1", Edges.STATE,
                Farms.after(rich, x -> x.grant(0, isColour, 9)), x -> x.grant(0, isColour, 1));
            EDGES.due(what + ", the other quota is not full", rich, x -> x.grant(0, !isColour, 999), 1998);
            EDGES.due(what + ", the other quota stays", rich, x -> {
                x.grant(0, isColour, 9);
                return x.quotaOf(0, !isColour);
            }, 999);
            EDGES.outOfRange(what + ", pages before 9999", 1, 999, Edges.ARGUMENT, rich,
                (x, pages) -> x.grant(0, isColour, pages));
            EDGES.outOfRange(what + ", no user before pages above", 0, 0, Edges.INDEX, rich,
                (x, user) -> x.grant(user, isColour, 1000));
            EDGES.outOfRange(what + ", no user before pages below", 0, 0, Edges.INDEX, rich,
                (x, user) -> x.grant(user, isColour, 0));
        }
        EDGES.due("14 grant, again after a page came out", Farms.after(rich(false), x -> {
            x.grant(0, false, 9);
            x.submit(0, 1, 1, 'a', false, false);
            x.release(0, 0);
        }), x -> x.grant(0, false, 1), 9999);
    }

    /** A quota of 8991. */
    private static Supplier<SpoolFarm> poor(boolean isColour) {
        return Farms.after(Farms.office(999, 10, 1, 9), x -> {
            for (int i = 0; i < 8; i++) {
                x.grant(0, isColour, 999);
            }
        });
    }

    /** A quota of 9990. */
    private static Supplier<SpoolFarm> rich(boolean isColour) {
        return Farms.after(poor(isColour), x -> x.grant(0, isColour, 999));
    }

    // Promise 15
    private static void quotaOf() {
        EDGES.users("15 quotaOf, mono", (x, user) -> x.quotaOf(user, false), user -> 100 + user);
        EDGES.users("15 quotaOf, colour", (x, user) -> x.quotaOf(user, true), user -> 200 + user);
        EDGES.due("15 quotaOf, the last mono page came out", used(2, false), x -> x.quotaOf(0, false), 0);
        EDGES.due("15 quotaOf, and no colour page", used(2, false), x -> x.quotaOf(0, true), 2);
        EDGES.due("15 quotaOf, the last colour page came out", used(2, true), x -> x.quotaOf(0, true), 0);
        EDGES.due("15 quotaOf, and no mono page", used(2, true), x -> x.quotaOf(0, false), 2);
        for (int user = 0; user < 3; user++) {
            int asked = user;
            EDGES.due("15 quotaOf, after user 1's job, user " + user, Farms.after(Farms.with(3, 1, 0),
                x -> x.release(x.submit(1, 4, 1, 'a', false, false), 0)), x -> x.quotaOf(asked, false),
                user == 1 ? 97 : 100 + user);
        }
        EDGES.due("15 quotaOf, one page is left", used(3, false), x -> x.quotaOf(0, false), 1);
        EDGES.due("15 quotaOf, cancel gives nothing back", used(1, false), x -> {
            x.cancel(0);
            return x.quotaOf(0, false);
        }, 0);
    }

    /** A job of two pages after its release, with a quota of so many pages. */
    private static Supplier<SpoolFarm> used(int quota, boolean isColour) {
        return Farms.after(Farms.office(quota, 100, 1, 9), x -> {
            x.submit(0, 2, 1, 'a', isColour, false);
            x.release(0, 0);
        });
    }

    // Promise 16
    private static void setPrices() {
        Supplier<SpoolFarm> jobs = Farms.after(Farms.office(99, 99, 1, 9), x -> {
            x.submit(0, 3, 1, 'a', false, true);
            x.submit(0, 3, 1, 'a', true, true);
        });
        EDGES.range("16 setPrices, mono", 0, 99, jobs, (x, price) -> {
            x.setPrices(price, 1, 1);
            x.release(0, 0);
            return x.billOf(0);
        }, price -> 3L * price + 2);
        EDGES.range("16 setPrices, colour", 0, 99, jobs, (x, price) -> {
            x.setPrices(1, price, 1);
            x.release(1, 0);
            return x.billOf(0);
        }, price -> 3L * price + 2);
        EDGES.range("16 setPrices, sheet", 0, 99, jobs, (x, price) -> {
            x.setPrices(1, 1, price);
            x.release(1, 0);
            return x.billOf(0);
        }, price -> 3L + 2 * price);
        EDGES.range("16 setPrices, the mono price before", 0, 99, jobs, (x, price) -> {
            x.setPrices(price, 1, 1);
            return x.setPrices(3, 4, 5);
        }, price -> price);
        EDGES.due("16 setPrices, all the most", jobs, x -> {
            x.setPrices(99, 99, 99);
            x.releaseAll(0, 0);
            return x.billOf(0);
        }, 99L * (6 + 4));
        EDGES.due("16 setPrices, all the least", jobs, x -> {
            x.setPrices(0, 0, 0);
            x.releaseAll(0, 0);
            return x.billOf(0);
        }, 0L);
        EDGES.due("16 setPrices, what came out before stays", jobs, x -> {
            x.release(0, 0);
            x.setPrices(99, 99, 99);
            return x.billOf(0);
        }, 8L);
        EDGES.due("16 setPrices, from the next sheet of the job", Farms.after(jobs, x -> {
            x.setToner(0, false, 4);
            x.release(0, 0);
            x.setPrices(50, 0, 7);
            x.setToner(0, false, 4);
            x.release(0, 0);
        }), x -> x.billOf(0), 5L + 57L);
    }
}
