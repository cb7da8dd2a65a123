import java.lang.reflect.Constructor;
import java.lang.reflect.Field;
import java.lang.reflect.Method;
import java.lang.reflect.Modifier;
import java.util.Set;
import java.util.TreeSet;

/** The class shows the document's face and nothing else (LANGUAGE.md, rule 1). */
final class FaceTest {
    private static final String ONE_GUEST = " throws IndexOutOfBoundsException";
    private static final String NUMBER = " throws IllegalArgumentException";
    private static final String GUEST_AND_NUMBER = ONE_GUEST + " IllegalArgumentException";
    private static final String WAY = GUEST_AND_NUMBER + " IllegalStateException";

    private static final String[] FACE = {
        "int newDinner(int)" + NUMBER, "int setLimit(int)" + NUMBER, "int speak(int,int)" + GUEST_AND_NUMBER,
        "int cough(int,int)" + GUEST_AND_NUMBER, "int glance(int,int)" + WAY, "int pass(int)" + NUMBER,
        "int guests()", "int seconds()", "int limit()", "int seatsApart(int,int)" + ONE_GUEST, "int speaker()",
        "int secondsToSpeak()", "int pause()",
        "int spokenBy(int)" + ONE_GUEST, "int interruptionsBy(int)" + ONE_GUEST, "int coughsOf(int)" + ONE_GUEST,
        "int unsaidBy(int)" + ONE_GUEST, "boolean isUnderWay(int,int)" + ONE_GUEST,
        "int secondsToGo(int,int)" + ONE_GUEST, "int caughtBy(int,int)" + ONE_GUEST,
        "int unsaidInPauses()", "int allUnsaid()", "int glancesUnderWay()", "int meetings()", "int lostGlances()",
        "int quietest()", "int rating()",
        "int allUnsaidIn(int)" + NUMBER, "int secondsUntilPauseCounts()", "int wouldLeave(int,int)" + WAY,
        "int bestMoment(int,int)" + WAY, "int ratingIn(int)" + NUMBER, "double meanUnsaid()", "long digest()"};

    private static final Dues DUES = new Dues();

    public static void main(String[] args) {
        Class<?> face = PauseLedger.class;
        DUES.compare("the class", Modifier.toString(face.getModifiers()), "public final");
        DUES.compare("its constructors", constructorsOf(face), "public 0 throws 0");
        DUES.compare("its methods", String.valueOf(shownMethodsOf(face)), String.valueOf(new TreeSet<>(Set.of(FACE))));
        for (Field field : face.getDeclaredFields()) {
            int modifiers = field.getModifiers();
            DUES.compare("field " + field.getName(), hiddenOrNot(modifiers), "hidden");
            DUES.compare("field " + field.getName(), Modifier.isFinal(modifiers) ? "final" : "free", "final");
        }
        for (Class<?> inside : face.getDeclaredClasses()) {
            String which = "class " + inside.getName();
            DUES.compare(which, Modifier.isStatic(inside.getModifiers()) ? "static" : "inner", "static");
            noNameTwice(inside);
        }
        noNameTwice(face);
        DUES.end();
    }

    private static String constructorsOf(Class<?> face) {
        StringBuilder all = new StringBuilder();
        for (Constructor<?> each : face.getDeclaredConstructors()) {
            all.append(Modifier.toString(each.getModifiers())).append(' ').append(each.getParameterCount())
                .append(" throws ").append(each.getExceptionTypes().length);
        }
        return all.toString();
    }

    private static Set<String> shownMethodsOf(Class<?> face) {
        Set<String> shown = new TreeSet<>();
        for (Method method : face.getDeclaredMethods()) {
            if (hiddenOrNot(method.getModifiers()).equals("shown") && !method.isSynthetic()) {
                shown.add(formOf(method));
            }
        }
        return shown;
    }

    private static String formOf(Method method) {
        StringBuilder form = new StringBuilder(method.getReturnType() + " " + method.getName() + "(");
        String between = "";
        for (Class<?> parameter : method.getParameterTypes()) {
            form.append(between).append(parameter);
            between = ",";
        }
        form.append(')');
        between = " throws ";
        for (Class<?> exception : method.getExceptionTypes()) {
            form.append(between).append(exception.getSimpleName());
            between = " ";
        }
        return form.toString();
    }

    private static String hiddenOrNot(int modifiers) {
        return Modifier.isPrivate(modifiers) ? "hidden" : "shown";
    }

    private static void noNameTwice(Class<?> where) {
        for (Method method : where.getDeclaredMethods()) {
            boolean ofFace = where == PauseLedger.class && !Modifier.isPrivate(method.getModifiers());
            if (!ofFace) {
                DUES.compare(where.getName() + "." + method.getName(), isFaceName(method.getName()) ? "twice" : "once",
                    "once");
            }
        }
    }

    private static boolean isFaceName(String name) {
        for (String form : FACE) {
            if (form.contains(" " + name + "(")) {
                return true;
            }
        }
        return false;
    }
}
