import java.lang.reflect.Constructor;
import java.lang.reflect.Field;
import java.lang.reflect.Method;
import java.lang.reflect.Modifier;
import java.util.Arrays;
import java.util.Set;
import java.util.TreeSet;

/** The class's members are those of the document's face, and a new object is as promise 1 says. */
public final class FaceTest {
    /** The methods, in the order of their promises. */
    static final String[] FACE = {
        "public int addGap(int,int,int) throws IOOBE,IAE,ISE",
        "public int gapCount(int) throws IOOBE",
        "public int gapDay(int,int) throws IOOBE",
        "public int gapLength(int,int) throws IOOBE",
        "public int monthLength(int,int) throws IOOBE,IAE",
        "public int dayOfMonth(int,int) throws IOOBE,IAE",
        "public int monthOf(int,int) throws IOOBE,IAE",
        "public int yearOf(int,int) throws IOOBE,IAE",
        "public int weekday(int) throws IAE",
        "public int dayOfDate(int,int,int,int) throws IOOBE,IAE",
        "public int addFeast(int,int,int) throws IOOBE,IAE,ISE",
        "public int barWeekday(int,int) throws IOOBE,IAE",
        "public int allowAllWeekdays(int) throws IOOBE,ISE",
        "public int feastCount()",
        "public int feastTown(int) throws IOOBE",
        "public int barredWeekday(int) throws IOOBE",
        "public int dayDue(int,int) throws IOOBE,IAE",
        "public int dayKept(int,int) throws IOOBE,IAE",
        "public boolean isKept(int,int) throws IOOBE,IAE",
        "public int feastsOn(int) throws IAE",
        "public boolean isQuarrel(int) throws IAE",
        "public int setShift(int) throws IAE",
        "public int shift()",
        "public int setCopiesPerDay(int) throws IAE",
        "public int copiesPerDay()",
        "public int passDays(int) throws IAE,ISE",
        "public int today()",
        "public int feastsKept(int) throws IOOBE",
        "public int quarrelCount()",
        "public int copiesMade()",
        "public int nextDay(int) throws IOOBE",
        "public int daysUntilMeeting(int,int) throws IOOBE,IAE",
        "public int quarrelsWithin(int) throws IAE",
        "public int bestBarredWeekday(int) throws IOOBE",
        "public int appendText(long) throws IAE,ISE",
        "public int clearText()",
        "public int textLength()",
        "public int textError()",
        "public int textCharacter(int) throws IOOBE",
        "public int dayOfText() throws ISE",
        "public int writeDate(int,int) throws IOOBE,IAE",
        "public int undo() throws ISE",
        "public int undoCount()",
        "public int saveState(int) throws IOOBE",
        "public int loadState(int) throws IOOBE,ISE",
    };

    public static void main(String[] args) {
        membersAreTheFace();
        newObject();
        Check.end("FaceTest");
    }

    private static void membersAreTheFace() {
        Class<?> type = TwoTownAlmanac.class;
        Check.due(1, "modifiers", type.getModifiers(), Modifier.PUBLIC | Modifier.FINAL);
        Set<String> found = new TreeSet<>();
        Set<String> privateNames = new TreeSet<>();
        for (Method method : type.getDeclaredMethods()) {
            if (Modifier.isPrivate(method.getModifiers())) {
                privateNames.add(method.getName());
            } else if (!method.isSynthetic()) {
                found.add(shortened(method.toGenericString()));
            }
        }
        Check.same(1, "the methods", found, new TreeSet<>(Arrays.asList(FACE)));
        for (Method method : type.getDeclaredMethods()) {
            boolean clash = Modifier.isPublic(method.getModifiers()) && privateNames.contains(method.getName());
            Check.due(1, "a private method named like " + method.getName(), clash, false);
        }
        for (Field field : type.getDeclaredFields()) {
            boolean open = !Modifier.isPrivate(field.getModifiers());
            Check.due(1, "field " + field.getName() + " can be seen", open, field.getName().equals("NONE"));
        }
        Constructor<?>[] constructors = type.getDeclaredConstructors();
        Check.due(1, "constructors", constructors.length, 1);
        Check.same(1, "constructor", constructors[0].toGenericString(), "public TwoTownAlmanac()");
        Check.due(1, "NONE", TwoTownAlmanac.NONE, -1);
    }

    private static String shortened(String method) {
        return method.replace("TwoTownAlmanac.", "")
                .replace("java.lang.IndexOutOfBoundsException", "IOOBE")
                .replace("java.lang.IllegalArgumentException", "IAE")
                .replace("java.lang.IllegalStateException", "ISE");
    }

    private static void newObject() {
        TwoTownAlmanac x = new TwoTownAlmanac();
        Check.due(1, "gapCount(0)", x.gapCount(0), 0);
        Check.due(1, "gapCount(1)", x.gapCount(1), 0);
        Check.due(1, "feastCount()", x.feastCount(), 0);
        Check.due(1, "shift()", x.shift(), 1);
        Check.due(1, "copiesPerDay()", x.copiesPerDay(), 2);
        Check.due(1, "today()", x.today(), 0);
        Check.due(1, "feastsKept(0)", x.feastsKept(0), 0);
        Check.due(1, "feastsKept(1)", x.feastsKept(1), 0);
        Check.due(1, "quarrelCount()", x.quarrelCount(), 0);
        Check.due(1, "copiesMade()", x.copiesMade(), 0);
        Check.due(1, "textLength()", x.textLength(), 0);
        Check.due(1, "undoCount()", x.undoCount(), 0);
    }
}
