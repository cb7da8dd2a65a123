import java.util.ArrayList;
import java.util.List;

/**
 * "A method that throws an exception changes nothing. If several exceptions apply, the one that is named first is
 * thrown." Each refused call is made on an object of its own, which must then answer as one that was spared the call.
 */
final class RefusedCallsTest {
    private static final int MIN = Integer.MIN_VALUE;
    private static final int MAX = Integer.MAX_VALUE;
    private static final String NO_GUEST = "throws IndexOutOfBoundsException";
    private static final String BAD_ARGUMENT = "throws IllegalArgumentException";
    private static final String BAD_STATE = "throws IllegalStateException";

    private static final Dues DUES = new Dues();

    interface Recipe {
        PauseLedger make();
    }

    interface Refused {
        Object askOf(PauseLedger x);
    }

    interface OneNumber {
        Object askOf(PauseLedger x, int number);
    }

    interface TwoNumbers {
        Object askOf(PauseLedger x, int first, int second);
    }

    private final String name;
    private final Recipe recipe;
    private final int guests;
    private final String answersBefore;
    private final long digestLater;

    private RefusedCallsTest(String name, Recipe recipe) {
        this.name = name;
        this.recipe = recipe;
        PauseLedger spared = recipe.make();
        guests = spared.guests();
        answersBefore = Tables.allAnswersOf(spared);
        spared.pass(11);
        digestLater = spared.digest();
    }

    public static void main(String[] args) {
        new RefusedCallsTest("a new object", PauseLedger::new).all();
        new RefusedCallsTest("two guests", RefusedCallsTest::dinnerOfTwo).all();
        new RefusedCallsTest("three guests", RefusedCallsTest::dinnerOfThree).all();
        new RefusedCallsTest("the second before", RefusedCallsTest::secondBefore).all();
        new RefusedCallsTest("a full table", RefusedCallsTest::fullTable).all();
        new RefusedCallsTest("a smaller table", RefusedCallsTest::smallerTable).all();
        DUES.end();
    }

    private static PauseLedger dinnerOfTwo() {
        PauseLedger x = Tables.dinnerOf(2);
        x.pass(3);
        x.glance(0, 1);
        x.speak(1, 60);
        x.cough(0, 5);
        return x;
    }

    private static PauseLedger dinnerOfThree() {
        PauseLedger x = Tables.dinnerOf(3);
        x.setLimit(7);
        x.speak(0, 4);
        x.glance(0, 1);
        x.glance(1, 0);
        x.pass(2);
        x.speak(2, 9);
        x.glance(0, 1);
        x.glance(1, 2);
        x.cough(1, 8);
        return x;
    }

    /** The next second counts the pause, and ends a glance. */
    private static PauseLedger secondBefore() {
        PauseLedger x = Tables.dinnerOf(5);
        x.setLimit(30);
        x.pass(26);
        x.glance(3, 0);
        x.pass(3);
        return x;
    }

    private static PauseLedger fullTable() {
        PauseLedger x = Tables.dinnerOf(10);
        x.setLimit(1);
        x.pass(2);
        for (int from = 0; from < 10; from++) {
            for (int to = 0; to < 10; to++) {
                if (from != to) {
                    x.glance(from, to);
                }
            }
        }
        x.speak(9, 60);
        x.speak(8, 1);
        return x;
    }

    /** The guests of before are no guests any more. */
    private static PauseLedger smallerTable() {
        PauseLedger x = Tables.dinnerOf(10);
        x.cough(9, 9);
        x.glance(9, 4);
        x.newDinner(4);
        x.glance(3, 2);
        x.glance(2, 3);
        x.pass(1);
        return x;
    }

    private void all() {
        numbers("newDinner", PauseLedger::newDinner, 2, 10);
        numbers("setLimit", PauseLedger::setLimit, 1, 30);
        numbers("pass", PauseLedger::pass, 1, 120);
        numbers("allUnsaidIn", PauseLedger::allUnsaidIn, 1, 120);
        numbers("ratingIn", PauseLedger::ratingIn, 1, 120);
        guestAndNumber("speak", PauseLedger::speak, 60);
        guestAndNumber("cough", PauseLedger::cough, 9);
        oneGuest("spokenBy", PauseLedger::spokenBy);
        oneGuest("interruptionsBy", PauseLedger::interruptionsBy);
        oneGuest("coughsOf", PauseLedger::coughsOf);
        oneGuest("unsaidBy", PauseLedger::unsaidBy);
        twoGuests("seatsApart", PauseLedger::seatsApart);
        twoGuests("isUnderWay", PauseLedger::isUnderWay);
        twoGuests("secondsToGo", PauseLedger::secondsToGo);
        twoGuests("caughtBy", PauseLedger::caughtBy);
        way("glance", PauseLedger::glance);
        way("wouldLeave", PauseLedger::wouldLeave);
        way("bestMoment", PauseLedger::bestMoment);
    }

    private void refuses(String call, Refused refused, String exception) {
        PauseLedger x = recipe.make();
        String which = name + ", " + call;
        DUES.compare(which, Dues.outcomeOf(() -> refused.askOf(x)), exception);
        DUES.compare(which + " changes nothing", Tables.allAnswersOf(x), answersBefore);
        x.pass(11);
        DUES.due(which + " changes nothing later", x::digest, digestLater);
    }

    private void numbers(String method, OneNumber call, int least, int most) {
        for (int number : numbersBeyond(least, most)) {
            refuses(method + "(" + number + ")", x -> call.askOf(x, number), BAD_ARGUMENT);
        }
    }

    private void oneGuest(String method, OneNumber call) {
        for (int guest : noGuests()) {
            refuses(method + "(" + guest + ")", x -> call.askOf(x, guest), NO_GUEST);
        }
    }

    private void guestAndNumber(String method, TwoNumbers call, int most) {
        for (int guest : noGuests()) {
            for (int number : new int[] {MIN, 0, 1, most, most + 1, MAX}) {
                refuses(callOf(method, guest, number), x -> call.askOf(x, guest, number), NO_GUEST);
            }
        }
        for (int guest = 0; guest < guests; guest++) {
            for (int number : numbersBeyond(1, most)) {
                int who = guest;
                refuses(callOf(method, who, number), x -> call.askOf(x, who, number), BAD_ARGUMENT);
            }
        }
    }

    private void twoGuests(String method, TwoNumbers call) {
        for (int none : noGuests()) {
            for (int other : new int[] {0, guests - 1, none, -1, guests, MAX}) {
                refuses(callOf(method, none, other), x -> call.askOf(x, none, other), NO_GUEST);
                refuses(callOf(method, other, none), x -> call.askOf(x, other, none), NO_GUEST);
            }
        }
    }

    private void way(String method, TwoNumbers call) {
        twoGuests(method, call);
        PauseLedger asked = recipe.make();
        for (int from = 0; from < guests; from++) {
            int a = from;
            refuses(callOf(method, a, a), x -> call.askOf(x, a, a), BAD_ARGUMENT);
            for (int to = 0; to < guests; to++) {
                int b = to;
                if (asked.isUnderWay(a, b)) {
                    refuses(callOf(method, a, b), x -> call.askOf(x, a, b), BAD_STATE);
                }
            }
        }
    }

    private static String callOf(String method, int first, int second) {
        return method + "(" + first + ", " + second + ")";
    }

    /** The last ones would be good ones if only their lower bits were looked at. */
    private static int[] numbersBeyond(int least, int most) {
        return new int[] {least - 1, least - 2, -most, MIN, most + 1, most + 2, MAX, 256 + least, 65536 + most, MIN + most};
    }

    private int[] noGuests() {
        List<Integer> none = new ArrayList<>(List.of(-1, -2, -guests, MIN, guests, guests + 1, 10, 100, MAX, 65536));
        none.removeIf(guest -> guest >= 0 && guest < guests);
        return none.stream().mapToInt(Integer::intValue).distinct().toArray();
    }
}
