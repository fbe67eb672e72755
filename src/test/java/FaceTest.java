import java.lang.reflect.Constructor;
import java.lang.reflect.Field;
import java.lang.reflect.Method;
import java.lang.reflect.Modifier;
import java.nio.file.Files;
import java.nio.file.Path;
import java.util.Set;
import java.util.TreeSet;

/** The class has the document's face and nothing else that is seen from outside. */
public final class FaceTest {
    private static final String[] FACE = {
        "int addUser(int,int) IllegalArgumentException,IllegalStateException",
        "int addPrinter(boolean,int,int) IllegalArgumentException,IllegalStateException",
        "int addTray(int,char,int) IndexOutOfBoundsException,IllegalArgumentException,IllegalStateException",
        "int trayCount(int) IndexOutOfBoundsException",
        "int load(int,int,int) IndexOutOfBoundsException,IllegalArgumentException,IllegalStateException",
        "char changePaper(int,int,char) IndexOutOfBoundsException,IllegalArgumentException,IllegalStateException",
        "int sheetsIn(int,int) IndexOutOfBoundsException",
        "char paperOf(int,int) IndexOutOfBoundsException",
        "int setToner(int,boolean,int) IndexOutOfBoundsException,IllegalArgumentException,"
            + "UnsupportedOperationException",
        "int tonerOf(int,boolean) IndexOutOfBoundsException,UnsupportedOperationException",
        "int setStaples(int,int) IndexOutOfBoundsException,IllegalArgumentException",
        "int staplesIn(int) IndexOutOfBoundsException",
        "int grant(int,boolean,int) IndexOutOfBoundsException,IllegalArgumentException,IllegalStateException",
        "int quotaOf(int,boolean) IndexOutOfBoundsException",
        "int setPrices(int,int,int) IllegalArgumentException",
        "int submit(int,int,int,char,boolean,boolean) IndexOutOfBoundsException,IllegalArgumentException,"
            + "IllegalStateException",
        "boolean setStapled(int,boolean) IndexOutOfBoundsException",
        "int cancel(int) IndexOutOfBoundsException,IllegalStateException",
        "char stateOf(int) IndexOutOfBoundsException",
        "int pagesLeft(int) IndexOutOfBoundsException",
        "int sheetsOut(int) IndexOutOfBoundsException",
        "int stapledCopies(int) IndexOutOfBoundsException",
        "char reasonFor(int,int) IndexOutOfBoundsException",
        "int wouldPrint(int,int) IndexOutOfBoundsException",
        "int release(int,int) IndexOutOfBoundsException,UnsupportedOperationException",
        "int releaseAll(int,int) IndexOutOfBoundsException",
        "char stopOf(int) IndexOutOfBoundsException,NoSuchElementException",
        "int bestPrinter(int) IndexOutOfBoundsException,NoSuchElementException",
        "int queueLength(int) IndexOutOfBoundsException",
        "int queueAt(int,int) IndexOutOfBoundsException,NoSuchElementException",
        "int logSize() ",
        "int logJob(int) IndexOutOfBoundsException",
        "int logPrinter(int) IndexOutOfBoundsException",
        "int logPages(int) IndexOutOfBoundsException",
        "int logSheets(int) IndexOutOfBoundsException",
        "int pagesOf(int) IndexOutOfBoundsException",
        "int pagesByLog(int) IndexOutOfBoundsException",
        "long billOf(int) IndexOutOfBoundsException",
        "long billByLog(int) IndexOutOfBoundsException",
        "double meanPages() ArithmeticException",
        "float colourShare() ArithmeticException",
        "boolean isConsistent() ",
        "int writeJob(int) IndexOutOfBoundsException",
        "char lineAt(int) IndexOutOfBoundsException",
    };

    /** The interface's lines, each with the first and the last of the calls that it stands ahead of. */
    private static final String[][] SECTIONS = {
        {"users, printers and trays", "addUser", "setPrices"},
        {"jobs", "submit", "stapledCopies"},
        {"releases", "reasonFor", "queueAt"},
        {"log and bills", "logSize", "isConsistent"},
        {"line", "writeJob", "lineAt"},
    };

    private static final Check CHECK = new Check();

    public static void main(String[] args) throws Exception {
        methods();
        otherMembers();
        sections();
        CHECK.end("FaceTest");
    }

    private static void methods() {
        Set<String> due = new TreeSet<>(Set.of(FACE));
        Set<String> there = new TreeSet<>();
        Set<String> publicNames = new TreeSet<>();
        for (Method method : SpoolFarm.class.getDeclaredMethods()) {
            if (!Modifier.isPrivate(method.getModifiers())) {
                there.add(told(method));
                publicNames.add(method.getName());
                CHECK.same(method + " is public and nothing more", method.getModifiers(), Modifier.PUBLIC);
            }
        }
        CHECK.sameText("the public methods", there.toString(), due.toString());
        for (Method method : SpoolFarm.class.getDeclaredMethods()) {
            if (Modifier.isPrivate(method.getModifiers())) {
                CHECK.same(method + " bears a public name", publicNames.contains(method.getName()), false);
            }
        }
    }

    private static void otherMembers() {
        CHECK.same("the class is public and final", SpoolFarm.class.getModifiers(),
            Modifier.PUBLIC | Modifier.FINAL);
        Constructor<?>[] makers = SpoolFarm.class.getDeclaredConstructors();
        CHECK.same("constructors", makers.length, 1);
        CHECK.same("the constructor is public", makers[0].getModifiers(), Modifier.PUBLIC);
        CHECK.same("its parameters", makers[0].getParameterCount(), 0);
        for (Field field : SpoolFarm.class.getDeclaredFields()) {
            CHECK.same(field + " is private", Modifier.isPrivate(field.getModifiers()), true);
        }
        for (Class<?> inside : SpoolFarm.class.getDeclaredClasses()) {
            CHECK.same(inside + " is static", Modifier.isStatic(inside.getModifiers()), true);
            CHECK.same(inside + " is not seen from outside",
                Modifier.isPublic(inside.getModifiers()) || Modifier.isProtected(inside.getModifiers()), false);
        }
    }

    /** The calls stand in the document's order, under its lines. */
    private static void sections() throws Exception {
        String text = Files.readString(Path.of("src/main/java/SpoolFarm.java"));
        int section = -1;
        int before = 0;
        for (String call : FACE) {
            String name = call.substring(call.indexOf(' ') + 1, call.indexOf('('));
            if (section + 1 < SECTIONS.length && name.equals(SECTIONS[section + 1][1])) {
                section++;
                int line = text.indexOf("    // ---- " + SECTIONS[section][0] + "\n");
                CHECK.same("the line ahead of " + name, line > before, true);
                before = line;
            }
            int place = text.indexOf(" " + name + "(", before);
            CHECK.same(name + " in the document's order", place > before, true);
            before = place;
            if (section + 1 < SECTIONS.length && name.equals(SECTIONS[section][2])) {
                int next = text.indexOf("    // ---- ", before);
                CHECK.same("the line behind " + name, text.startsWith(SECTIONS[section + 1][0], next + 12), true);
            }
        }
    }

    private static String told(Method method) {
        StringBuilder text = new StringBuilder();
        text.append(method.getReturnType().getName()).append(' ').append(method.getName()).append('(');
        text.append(names(method.getParameterTypes(), false)).append(") ");
        return text.append(names(method.getExceptionTypes(), true)).toString();
    }

    private static String names(Class<?>[] types, boolean isShort) {
        StringBuilder text = new StringBuilder();
        for (Class<?> type : types) {
            text.append(text.length() > 0 ? "," : "").append(isShort ? type.getSimpleName() : type.getName());
        }
        return text.toString();
    }
}
