import java.io.IOException;
import java.lang.reflect.InvocationTargetException;
import java.lang.reflect.Method;
import java.lang.reflect.Modifier;
import java.nio.file.Files;
import java.nio.file.Path;
import java.util.ArrayList;
import java.util.List;
import java.util.Set;
import java.util.TreeSet;

/**
 * Makes each call that README.md shows as an example. What is due is reckoned here from the document, not taken from the
 * page; the page has to show the same calls, in the same order, with the same answers.
 */
final class ReadmeTest {
    /** The directory in which .ci/run runs the tests is the project's own. */
    private static final Path PAGE = Path.of("README.md");
    private static final String NEW_OBJECT = "PauseLedger ledger = new PauseLedger();";
    private static final String OBJECT = "ledger.";

    private static final String NO_GUEST = "throws IndexOutOfBoundsException";
    private static final String BAD_ARGUMENT = "throws IllegalArgumentException";
    private static final String BAD_STATE = "throws IllegalStateException";

    private record Example(String call, String due) {
    }

    private static final Dues DUES = new Dues();
    private static final List<Example> EXAMPLES = new ArrayList<>();

    public static void main(String[] args) throws IOException {
        dinners();
        table();
        guests();
        counted();
        wouldBe();
        anotherDinner();
        refused();
        for (int i = 0; i < EXAMPLES.size(); i++) {
            makeOnANewObject(i);
        }
        firstLineMakesFourGuests();
        pageShowsTheSame(Files.readAllLines(PAGE));
        pageShowsEachMethod();
        DUES.end();
    }

    private static void dinners() {
        example("setLimit(4)", 5);
        example("speak(1, 6)", -1);
        example("glance(0, 1)", 2 * 1);
        example("glance(3, 1)", 2 * 2);
        example("cough(2, 5)", 5 / 2);
        // Behind second 2, guest 1 has 4 seconds to speak, so that the one from 0 is lost; the one from 3 has 1 to go.
        example("pass(3)", 0);
        example("speak(2, 1)", 1);
        // Second 4: guest 2 speaks, and the one from 3 is caught; second 5: the pause is 1.
        example("pass(2)", 1);
        example("cough(0, 5)", 5);
        example("glance(0, 2)", 2 * 2);
        // Second 6: the pause is 2.
        example("pass(1)", 0);
        example("glance(2, 0)", 2 * 2);
        // Second 8: the pause is 4, which counts; second 9: the one from 0 arrives, the other one has 1 second to go.
        example("pass(3)", 1 + 3 + 3);
        example("speak(3, 5)", -1);
        example("glance(1, 3)", 2 * 2);
        // Second 10: guest 3 speaks.
        example("pass(1)", 0);
    }

    private static void table() {
        example("guests()", 4);
        example("seconds()", 3 + 2 + 1 + 3 + 1);
        example("limit()", 4);
        example("seatsApart(0, 3)", 1);
        example("speaker()", 3);
        example("secondsToSpeak()", 5 - 1);
        example("pause()", 0);
    }

    private static void guests() {
        example("spokenBy(1)", 3);
        example("interruptionsBy(2)", 1);
        example("coughsOf(0)", 1);
        example("unsaidBy(0)", 5 + 3);
        example("isUnderWay(1, 3)", true);
        example("isUnderWay(3, 1)", false);
        example("secondsToGo(1, 3)", 4 - 1);
        example("caughtBy(3, 1)", 1);
    }

    private static void counted() {
        example("unsaidInPauses()", 1);
        // By guest: a cough and a meeting; nothing; a cough and a meeting; one that is caught.
        example("allUnsaid()", (5 + 3) + 0 + (2 + 3) + 1 + 1);
        example("glancesUnderWay()", 1);
        example("meetings()", 1);
        example("lostGlances()", 1);
        example("quietest()", 0);
        example("rating()", 10 - (4 - 15 / 4));
    }

    private static void wouldBe() {
        // Seconds 11 to 14 are speech, so that the one from 1 is lost at 13; the pause is 4 at second 18.
        example("allUnsaidIn(8)", 15 + 1);
        example("secondsUntilPauseCounts()", 4 + 4);
        // The one from 1 arrives at second 13, when this one has 1 second to go.
        example("wouldLeave(3, 1)", 3);
        example("wouldLeave(0, 2)", 1);
        // It arrives at second 12, behind whose step 1 guest 3 has 2 seconds to speak.
        example("wouldLeave(0, 3)", 0);
        // Guest 3 does not speak any more behind step 1 of second 14.
        example("bestMoment(0, 3)", 14 - 10 - 2);
        // Of 120 seconds, 4 are speech and 116 pause, which counts every 4 seconds.
        example("ratingIn(120)", 10 - ((15 + 116 / 4) / 4 - 4));
        example("meanUnsaid()", (8 + 0 + 5 + 1) / 4.0);
        example("digest()", digestOf(
            4, 10, 4, 3, 4, 0, 1, 1, 1, 1, 9,
            0, 0, 1, 8, 0, 0, 0, 0, 0, 0, 0, 0,
            3, 0, 0, 0, 0, 0, 0, 0, 0, 0, 3, 0,
            1, 1, 1, 5, 0, 0, 0, 0, 0, 0, 0, 0,
            1, 0, 0, 1, 0, 0, 0, 1, 0, 0, 0, 0));
    }

    private static void anotherDinner() {
        example("newDinner(6)", 9);
        example("guests()", 6);
        example("limit()", 4);
        example("allUnsaid()", 0);
    }

    private static void refused() {
        example("spokenBy(6)", NO_GUEST);
        example("newDinner(11)", BAD_ARGUMENT);
        example("setLimit(31)", BAD_ARGUMENT);
        example("speak(0, 61)", BAD_ARGUMENT);
        example("cough(0, 10)", BAD_ARGUMENT);
        example("pass(121)", BAD_ARGUMENT);
        example("allUnsaidIn(0)", BAD_ARGUMENT);
        example("glance(2, 2)", BAD_ARGUMENT);
        example("glance(6, 6)", NO_GUEST);
        example("glance(0, 1)", 2 * 1);
        example("glance(0, 1)", BAD_STATE);
        example("glancesUnderWay()", 1);
    }

    private static void example(String call, Object due) {
        EXAMPLES.add(new Example(call, String.valueOf(due)));
    }

    private static long digestOf(long... numbers) {
        long d = 1973;
        for (long x : numbers) {
            d = d * 31 + x;
        }
        return d;
    }

    private static void makeOnANewObject(int which) {
        PauseLedger ledger = new PauseLedger();
        for (int i = 0; i < which; i++) {
            answerOf(ledger, EXAMPLES.get(i).call());
        }
        Example example = EXAMPLES.get(which);
        DUES.compare("README.md, " + example.call(), answerOf(ledger, example.call()), example.due());
    }

    /** The call is read from its text, so that what is made is what is shown. */
    private static String answerOf(PauseLedger ledger, String call) {
        String name = call.substring(0, call.indexOf('('));
        String inside = call.substring(call.indexOf('(') + 1, call.indexOf(')'));
        String[] texts = inside.isEmpty() ? new String[0] : inside.split(", ");
        Object[] arguments = new Object[texts.length];
        Class<?>[] types = new Class<?>[texts.length];
        for (int i = 0; i < texts.length; i++) {
            arguments[i] = Integer.valueOf(texts[i]);
            types[i] = int.class;
        }
        try {
            return String.valueOf(PauseLedger.class.getMethod(name, types).invoke(ledger, arguments));
        } catch (InvocationTargetException e) {
            return "throws " + e.getCause().getClass().getSimpleName();
        } catch (ReflectiveOperationException e) {
            return "is no call of the face";
        }
    }

    private static void firstLineMakesFourGuests() {
        PauseLedger ledger = new PauseLedger();
        DUES.due("README.md, " + NEW_OBJECT, ledger::guests, 4);
        DUES.due("README.md, the limit at first", ledger::limit, 5);
    }

    private static void pageShowsTheSame(List<String> page) {
        List<String> shown = linesOfJava(page);
        List<String> wanted = new ArrayList<>(List.of(NEW_OBJECT));
        for (Example example : EXAMPLES) {
            wanted.add(OBJECT + example.call() + "; // " + example.due());
        }
        DUES.due("README.md shows so many examples", shown::size, wanted.size());
        for (int i = 0; i < Math.min(shown.size(), wanted.size()); i++) {
            DUES.compare("README.md, example " + i, shown.get(i), wanted.get(i));
        }
        DUES.due("README.md shows so many calls elsewhere", () -> callsIn(page) - callsIn(shown), 0);
    }

    /** Each line without its words behind the answer, and with a single space ahead of //. */
    private static List<String> linesOfJava(List<String> page) {
        List<String> lines = new ArrayList<>();
        boolean inside = false;
        for (String line : page) {
            if (line.startsWith("```")) {
                inside = line.equals("```java");
            } else if (inside) {
                lines.add(line.replaceFirst(" +// ", " // ").replaceFirst("( // [^:]*): .*$", "$1"));
            }
        }
        return lines;
    }

    private static long callsIn(List<String> lines) {
        return lines.stream().filter(line -> line.matches(".*[a-z]\\([^)]*\\).*")).count();
    }

    private static void pageShowsEachMethod() {
        Set<String> missing = new TreeSet<>();
        for (Method method : PauseLedger.class.getDeclaredMethods()) {
            if (Modifier.isPublic(method.getModifiers())) {
                missing.add(method.getName());
            }
        }
        for (Example example : EXAMPLES) {
            missing.remove(example.call().substring(0, example.call().indexOf('(')));
        }
        DUES.compare("methods without an example", missing.toString(), "[]");
    }
}
