import java.util.function.Supplier;

/** Promises 1 to 16: users, printers and trays. */
public final class PrintersTest {
    private static final Class<IndexOutOfBoundsException> INDEX = IndexOutOfBoundsException.class;
    private static final Class<IllegalArgumentException> ARGUMENT = IllegalArgumentException.class;
    private static final Class<IllegalStateException> STATE = IllegalStateException.class;
    private static final Class<UnsupportedOperationException> UNSUPPORTED = UnsupportedOperationException.class;
    private static final char[] NO_PAPERS = {'c', 'A', 'k', 'm', '`', 0, 255, (char) 65535};

    private static final Check CHECK = new Check();

    public static void main(String[] args) {
        newObject();
        addUser();
        addPrinter();
        addTray();
        trayCount();
        load();
        changePaper();
        trayAnswers();
        setToner();
        tonerOf();
        staples();
        grant();
        quotaOf();
        setPrices();
        CHECK.end("PrintersTest");
    }

    /** A user, a colour printer with trays a4 (10) and a3 (0), and a mono printer without trays. */
    private static SpoolFarm farm() {
        SpoolFarm farm = new SpoolFarm();
        farm.addUser(20, 30);
        farm.addPrinter(true, 100, 7);
        farm.addTray(0, 'a', 10);
        farm.addTray(0, 'b', 0);
        farm.addPrinter(false, 50, 3);
        return farm;
    }

    // Promise 1
    private static void newObject() {
        SpoolFarm farm = new SpoolFarm();
        CHECK.same("logSize of a new object", farm.logSize(), 0);
        CHECK.same("isConsistent of a new object", farm.isConsistent(), true);
        CHECK.sameText("a new object", State.of(farm), "user0 end; printer0 end; job0 end; entry0 end; line ");
        farm.addUser(1, 1);
        CHECK.same("two objects share no users", new SpoolFarm().addUser(1, 1), 0);
    }

    // Promise 2
    private static void addUser() {
        SpoolFarm farm = new SpoolFarm();
        for (int user = 0; user < 6; user++) {
            CHECK.same("addUser", farm.addUser(user == 0 ? 0 : 999, user == 1 ? 0 : 999 - user), user);
        }
        CHECK.same("mono quota at first", farm.quotaOf(0, false), 0);
        CHECK.same("colour quota at first", farm.quotaOf(0, true), 999);
        CHECK.same("mono quota at first", farm.quotaOf(1, false), 999);
        CHECK.same("colour quota at first", farm.quotaOf(1, true), 0);
        CHECK.same("pages at first", farm.pagesOf(5), 0);
        CHECK.same("bill at first", farm.billOf(5), 0);
        int[][] wrong = {{-1, 0}, {0, -1}, {1000, 0}, {0, 1000}, {Integer.MIN_VALUE, 0}, {0, Integer.MAX_VALUE}};
        for (int[] quotas : wrong) {
            CHECK.refuses("addUser out of range", ARGUMENT, PrintersTest::farm,
                x -> x.addUser(quotas[0], quotas[1]));
            CHECK.refuses("addUser out of range with 6 users", ARGUMENT, PrintersTest::fullOfUsers,
                x -> x.addUser(quotas[0], quotas[1]));
        }
        CHECK.refuses("a 7th user", STATE, PrintersTest::fullOfUsers, x -> x.addUser(1, 1));
    }

    private static SpoolFarm fullOfUsers() {
        SpoolFarm farm = new SpoolFarm();
        for (int user = 0; user < 6; user++) {
            farm.addUser(1, 2);
        }
        return farm;
    }

    // Promise 3
    private static void addPrinter() {
        SpoolFarm farm = new SpoolFarm();
        CHECK.same("addPrinter", farm.addPrinter(true, 1000, 100), 0);
        CHECK.same("addPrinter", farm.addPrinter(false, 0, 0), 1);
        CHECK.same("addPrinter", farm.addPrinter(true, 0, 5), 2);
        CHECK.same("addPrinter", farm.addPrinter(false, 6, 1), 3);
        CHECK.same("a printer's trays at first", farm.trayCount(0), 0);
        CHECK.same("black toner at first", farm.tonerOf(0, false), 1000);
        CHECK.same("colour toner at first", farm.tonerOf(0, true), 1000);
        CHECK.same("staples at first", farm.staplesIn(0), 100);
        CHECK.same("black toner at first", farm.tonerOf(3, false), 6);
        int[][] wrong = {{-1, 0}, {0, -1}, {1001, 0}, {0, 101}, {Integer.MAX_VALUE, 0}, {0, Integer.MIN_VALUE}};
        for (int[] row : wrong) {
            CHECK.refuses("addPrinter out of range", ARGUMENT, PrintersTest::farm,
                x -> x.addPrinter(true, row[0], row[1]));
            CHECK.refuses("addPrinter out of range with 4 printers", ARGUMENT, PrintersTest::fullOfPrinters,
                x -> x.addPrinter(false, row[0], row[1]));
        }
        CHECK.refuses("a 5th printer", STATE, PrintersTest::fullOfPrinters, x -> x.addPrinter(true, 1, 1));
    }

    private static SpoolFarm fullOfPrinters() {
        SpoolFarm farm = farm();
        farm.addPrinter(true, 1, 1);
        farm.addPrinter(true, 1, 1);
        return farm;
    }

    // Promise 4
    private static void addTray() {
        SpoolFarm farm = farm();
        CHECK.same("addTray", farm.addTray(1, 'l', 0), 0);
        CHECK.same("addTray", farm.addTray(1, 'a', 500), 1);
        CHECK.same("addTray", farm.addTray(1, 'b', 3), 2);
        CHECK.same("a third tray beside", farm.addTray(0, 'l', 4), 2);
        CHECK.same("its paper", farm.paperOf(1, 0), 'l');
        CHECK.same("its paper", farm.paperOf(1, 2), 'b');
        CHECK.same("its sheets", farm.sheetsIn(1, 1), 500);
        for (int printer : new int[] {-1, 2, 4, Integer.MIN_VALUE, Integer.MAX_VALUE}) {
            CHECK.refuses("addTray to no printer", INDEX, PrintersTest::farm,
                x -> x.addTray(printer, 'z', 501));
        }
        for (char paper : NO_PAPERS) {
            CHECK.refuses("addTray of no paper", ARGUMENT, PrintersTest::farm, x -> x.addTray(0, paper, 1));
            CHECK.refuses("addTray of no paper, full", ARGUMENT, PrintersTest::fullOfTrays,
                x -> x.addTray(0, paper, 1));
        }
        for (int sheets : new int[] {-1, 501, Integer.MIN_VALUE, Integer.MAX_VALUE}) {
            CHECK.refuses("addTray out of range", ARGUMENT, PrintersTest::farm, x -> x.addTray(0, 'a', sheets));
            CHECK.refuses("addTray out of range, full", ARGUMENT, PrintersTest::fullOfTrays,
                x -> x.addTray(0, 'a', sheets));
        }
        CHECK.refuses("a 4th tray", STATE, PrintersTest::fullOfTrays, x -> x.addTray(0, 'a', 1));
    }

    private static SpoolFarm fullOfTrays() {
        SpoolFarm farm = farm();
        farm.addTray(0, 'l', 1);
        return farm;
    }

    // Promise 5
    private static void trayCount() {
        CHECK.same("trayCount", farm().trayCount(0), 2);
        CHECK.same("trayCount", farm().trayCount(1), 0);
        CHECK.same("trayCount", fullOfTrays().trayCount(0), 3);
        for (int printer : new int[] {-1, 2, 4, Integer.MAX_VALUE}) {
            CHECK.refuses("trayCount of no printer", INDEX, PrintersTest::farm, x -> x.trayCount(printer));
        }
    }

    // Promise 6
    private static void load() {
        SpoolFarm farm = farm();
        CHECK.same("load", farm.load(0, 0, 1), 11);
        CHECK.same("load", farm.load(0, 0, 489), 500);
        CHECK.same("load", farm.load(0, 1, 500), 500);
        CHECK.same("sheetsIn", farm.sheetsIn(0, 0), 500);
        int[][] noTrays = {{-1, 0}, {2, 0}, {4, 0}, {0, -1}, {0, 2}, {0, 3}, {1, 0}, {0, Integer.MIN_VALUE}};
        for (int[] place : noTrays) {
            CHECK.refuses("load of no tray", INDEX, PrintersTest::farm, x -> x.load(place[0], place[1], 501));
        }
        for (int sheets : new int[] {0, -1, 501, Integer.MIN_VALUE, Integer.MAX_VALUE}) {
            CHECK.refuses("load out of range", ARGUMENT, PrintersTest::farm, x -> x.load(0, 0, sheets));
        }
        CHECK.refuses("load too much", STATE, PrintersTest::farm, x -> x.load(0, 0, 491));
        CHECK.refuses("load too much", STATE, PrintersTest::farm, x -> x.load(0, 0, 500));
    }

    // Promise 7
    private static void changePaper() {
        SpoolFarm farm = farm();
        CHECK.same("changePaper", farm.changePaper(0, 1, 'l'), 'b');
        CHECK.same("changePaper", farm.changePaper(0, 1, 'l'), 'l');
        CHECK.same("changePaper", farm.changePaper(0, 1, 'a'), 'l');
        CHECK.same("paperOf", farm.paperOf(0, 1), 'a');
        CHECK.same("paperOf beside", farm.paperOf(0, 0), 'a');
        int[][] noTrays = {{-1, 0}, {2, 0}, {0, -1}, {0, 2}, {0, 3}, {1, 0}};
        for (int[] place : noTrays) {
            CHECK.refuses("changePaper of no tray", INDEX, PrintersTest::farm,
                x -> x.changePaper(place[0], place[1], 'z'));
        }
        for (char paper : NO_PAPERS) {
            CHECK.refuses("changePaper to no paper", ARGUMENT, PrintersTest::farm,
                x -> x.changePaper(0, 1, paper));
            CHECK.refuses("changePaper to no paper, not empty", ARGUMENT, PrintersTest::farm,
                x -> x.changePaper(0, 0, paper));
        }
        CHECK.refuses("changePaper, not empty", STATE, PrintersTest::farm, x -> x.changePaper(0, 0, 'b'));
        CHECK.refuses("changePaper, one sheet", STATE, PrintersTest::oneSheet, x -> x.changePaper(0, 1, 'b'));
    }

    private static SpoolFarm oneSheet() {
        SpoolFarm farm = farm();
        farm.load(0, 1, 1);
        return farm;
    }

    // Promises 8 and 9
    private static void trayAnswers() {
        CHECK.same("sheetsIn", farm().sheetsIn(0, 0), 10);
        CHECK.same("sheetsIn", farm().sheetsIn(0, 1), 0);
        CHECK.same("paperOf", farm().paperOf(0, 0), 'a');
        CHECK.same("paperOf", farm().paperOf(0, 1), 'b');
        int[][] noTrays = {{-1, 0}, {2, 0}, {4, 0}, {0, -1}, {0, 2}, {0, 3}, {1, 0}, {Integer.MAX_VALUE, 0}};
        for (int[] place : noTrays) {
            CHECK.refuses("sheetsIn of no tray", INDEX, PrintersTest::farm, x -> x.sheetsIn(place[0], place[1]));
            CHECK.refuses("paperOf of no tray", INDEX, PrintersTest::farm, x -> x.paperOf(place[0], place[1]));
        }
    }

    // Promise 10
    private static void setToner() {
        SpoolFarm farm = farm();
        CHECK.same("setToner", farm.setToner(0, true, 1000), 100);
        CHECK.same("setToner", farm.setToner(0, true, 0), 1000);
        CHECK.same("setToner", farm.setToner(0, false, 4), 100);
        CHECK.same("setToner", farm.setToner(0, false, 5), 4);
        CHECK.same("setToner", farm.setToner(1, false, 8), 50);
        CHECK.same("tonerOf", farm.tonerOf(0, true), 0);
        CHECK.same("tonerOf", farm.tonerOf(0, false), 5);
        CHECK.same("tonerOf", farm.tonerOf(1, false), 8);
        for (int printer : new int[] {-1, 2, 4}) {
            CHECK.refuses("setToner of no printer", INDEX, PrintersTest::farm,
                x -> x.setToner(printer, true, 1001));
        }
        for (int units : new int[] {-1, 1001, Integer.MIN_VALUE, Integer.MAX_VALUE}) {
            CHECK.refuses("setToner out of range", ARGUMENT, PrintersTest::farm,
                x -> x.setToner(0, true, units));
            CHECK.refuses("setToner out of range, no colour", ARGUMENT, PrintersTest::farm,
                x -> x.setToner(1, true, units));
        }
        CHECK.refuses("setToner, no colour", UNSUPPORTED, PrintersTest::farm, x -> x.setToner(1, true, 1));
    }

    // Promise 11
    private static void tonerOf() {
        SpoolFarm farm = farm();
        farm.setToner(0, true, 33);
        CHECK.same("tonerOf", farm.tonerOf(0, false), 100);
        CHECK.same("tonerOf", farm.tonerOf(0, true), 33);
        CHECK.same("tonerOf", farm.tonerOf(1, false), 50);
        for (int printer : new int[] {-1, 2, 4}) {
            CHECK.refuses("tonerOf of no printer", INDEX, PrintersTest::farm, x -> x.tonerOf(printer, true));
            CHECK.refuses("tonerOf of no printer", INDEX, PrintersTest::farm, x -> x.tonerOf(printer, false));
        }
        CHECK.refuses("tonerOf, no colour", UNSUPPORTED, PrintersTest::farm, x -> x.tonerOf(1, true));
    }

    // Promises 12 and 13
    private static void staples() {
        SpoolFarm farm = farm();
        CHECK.same("staplesIn", farm.staplesIn(0), 7);
        CHECK.same("staplesIn", farm.staplesIn(1), 3);
        CHECK.same("setStaples", farm.setStaples(0, 100), 7);
        CHECK.same("setStaples", farm.setStaples(0, 0), 100);
        CHECK.same("staplesIn", farm.staplesIn(0), 0);
        CHECK.same("staplesIn beside", farm.staplesIn(1), 3);
        for (int printer : new int[] {-1, 2, 4}) {
            CHECK.refuses("setStaples of no printer", INDEX, PrintersTest::farm,
                x -> x.setStaples(printer, 101));
            CHECK.refuses("staplesIn of no printer", INDEX, PrintersTest::farm, x -> x.staplesIn(printer));
        }
        for (int count : new int[] {-1, 101, Integer.MIN_VALUE, Integer.MAX_VALUE}) {
            CHECK.refuses("setStaples out of range", ARGUMENT, PrintersTest::farm, x -> x.setStaples(0, count));
        }
    }

    // Promise 14
    private static void grant() {
        SpoolFarm farm = farm();
        CHECK.same("grant", farm.grant(0, false, 1), 21);
        CHECK.same("grant", farm.grant(0, true, 999), 1029);
        CHECK.same("quotaOf", farm.quotaOf(0, false), 21);
        Supplier<SpoolFarm> rich = PrintersTest::rich;
        CHECK.same("grant up to 9999", rich.get().grant(0, false, 9), 9999);
        CHECK.same("grant beside 9990", rich.get().grant(0, true, 999), 1029);
        for (int user : new int[] {-1, 1, 6, Integer.MIN_VALUE, Integer.MAX_VALUE}) {
            CHECK.refuses("grant to no user", INDEX, PrintersTest::farm, x -> x.grant(user, true, 0));
        }
        for (int pages : new int[] {0, -1, 1000, Integer.MIN_VALUE, Integer.MAX_VALUE}) {
            CHECK.refuses("grant out of range", ARGUMENT, PrintersTest::farm, x -> x.grant(0, true, pages));
            CHECK.refuses("grant out of range to the rich", ARGUMENT, rich, x -> x.grant(0, false, pages));
        }
        CHECK.refuses("grant above 9999", STATE, rich, x -> x.grant(0, false, 10));
        CHECK.refuses("grant above 9999", STATE, rich, x -> x.grant(0, false, 999));
    }

    /** A farm whose user 0 has a quota of 9990 mono pages. */
    private static SpoolFarm rich() {
        SpoolFarm farm = farm();
        farm.grant(0, false, 979);
        for (int i = 0; i < 9; i++) {
            farm.grant(0, false, 999);
        }
        return farm;
    }

    // Promise 15
    private static void quotaOf() {
        CHECK.same("quotaOf", farm().quotaOf(0, false), 20);
        CHECK.same("quotaOf", farm().quotaOf(0, true), 30);
        CHECK.same("quotaOf", rich().quotaOf(0, false), 9990);
        for (int user : new int[] {-1, 1, 6, Integer.MAX_VALUE}) {
            CHECK.refuses("quotaOf of no user", INDEX, PrintersTest::farm, x -> x.quotaOf(user, true));
        }
    }

    // Promise 16; what prices do to bills is in LogTest
    private static void setPrices() {
        SpoolFarm farm = farm();
        CHECK.same("setPrices", farm.setPrices(99, 98, 97), 2);
        CHECK.same("setPrices", farm.setPrices(0, 0, 0), 99);
        CHECK.same("setPrices", farm.setPrices(5, 99, 99), 0);
        int[][] wrong = {{-1, 0, 0}, {0, -1, 0}, {0, 0, -1}, {100, 0, 0}, {0, 100, 0}, {0, 0, 100}};
        for (int[] prices : wrong) {
            CHECK.refuses("setPrices out of range", ARGUMENT, () -> farm,
                x -> x.setPrices(prices[0], prices[1], prices[2]));
        }
        CHECK.same("setPrices after refusals", farm.setPrices(1, 1, 1), 5);
    }
}
