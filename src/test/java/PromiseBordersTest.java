import java.math.BigInteger;
import java.util.ArrayList;
import java.util.List;

/** The sentences of the promises that name a border; what would be is compared with what then comes to pass. */
final class PromiseBordersTest {
    private static final Dues DUES = new Dues();

    interface Asked {
        int askOf(PauseLedger x);
    }

    interface AskedWithSeconds {
        int askOf(PauseLedger x, int seconds);
    }

    interface Made {
        PauseLedger make();
    }

    public static void main(String[] args) {
        promise1DinnerOfFour();
        promise2AnswersTheRatingOfBefore();
        promise2AllBeginsAnewButForTheLimit();
        promise3LimitFromNowOn();
        promise4SpeaksForOneToSixtySeconds();
        promise4GoesOnForThisTimeInstead();
        promise4AnswersWhoIsInterrupted();
        promise5AnswersWhatIsLeftUnsaid();
        promise6AnswersTheSecondsUnderWay();
        promise7OneToOneHundredAndTwentySeconds();
        promise7AnswersHowMuchMore();
        promise8To10TheTable();
        promise11ZeroForTheSame();
        promise12And13NobodySpeaks();
        promise14Pause();
        promise15To18EachGuestItsOwn();
        promise19And20TheSame();
        promise21ThoseThatMetDoNotCount();
        promise22And23UnsaidInAll();
        promise24To26Glances();
        promise27OfSeveralTheSmallest();
        promise28RatingNow();
        promise29AllUnsaidIn();
        promise30SecondsUntilPauseCounts();
        promise31WouldLeave();
        promise32BestMomentIsTheFirst();
        promise32ZeroToSixty();
        promise32AtItsBorders();
        promise33RatingIn();
        promise34MeanOfGuestsAlone();
        promise35DigestWrapsAround();
        promise35DigestOfANewObject();
        objectIsUsedFor512Calls();
        DUES.end();
    }

    private static void promise1DinnerOfFour() {
        PauseLedger x = new PauseLedger();
        DUES.compare("1 as another dinner of 4", Tables.allAnswersOf(x), Tables.allAnswersOf(Tables.dinnerOf(4)));
        PauseLedger fresh = new PauseLedger();
        DUES.due("1 the last guest", () -> fresh.speak(3, 1), -1);
        DUES.noGuest("1 one guest too far", () -> fresh.speak(4, 1));
        DUES.due("1 pauses count at 5", () -> fresh.pass(6) * 10 + fresh.secondsUntilPauseCounts(), 15);
    }

    private static void promise2AnswersTheRatingOfBefore() {
        PauseLedger x = new PauseLedger();
        DUES.due("2 nothing is unsaid", () -> x.newDinner(2), 6);
        int[][] unsaidAndRating = {{7, 9}, {8, 10}, {9, 10}, {27, 1}, {28, 0}, {29, 0}, {30, 0}};
        for (int[] each : unsaidAndRating) {
            Tables.leaveUnsaid(x, 1, each[0]);
            DUES.badArgument("2 newDinner(1), " + each[0] + " unsaid", () -> x.newDinner(1));
            DUES.badArgument("2 newDinner(11), " + each[0] + " unsaid", () -> x.newDinner(11));
            DUES.due("2 by the guests of before, " + each[0], () -> x.newDinner(10), each[1]);
            DUES.due("2 nothing is unsaid behind " + each[0], () -> x.newDinner(2), 6);
        }
        x.pass(5);
        x.cough(0, 7);
        DUES.due("2 pauses count", () -> x.newDinner(2), 10);
    }

    private static void promise2AllBeginsAnewButForTheLimit() {
        for (int guests = 2; guests <= 10; guests++) {
            PauseLedger x = livedThrough(guests);
            x.newDinner(guests);
            PauseLedger fresh = Tables.dinnerOf(guests);
            fresh.setLimit(2);
            DUES.compare("2 anew for " + guests, Tables.allAnswersOf(x), Tables.allAnswersOf(fresh));
        }
        PauseLedger smaller = livedThrough(10);
        smaller.newDinner(2);
        DUES.noGuest("2 the third is no guest any more", () -> smaller.unsaidBy(2));
        smaller.newDinner(10);
        PauseLedger fresh = Tables.dinnerOf(10);
        fresh.setLimit(2);
        DUES.compare("2 smaller, and greater again", Tables.allAnswersOf(smaller), Tables.allAnswersOf(fresh));
    }

    /** Something of all that can be counted, and someone who speaks, and glances under way; the limit is 2. */
    private static PauseLedger livedThrough(int guests) {
        PauseLedger x = Tables.dinnerOf(guests);
        int last = guests - 1;
        x.setLimit(2);
        x.glance(last, 0);
        x.glance(0, last);
        x.pass(2);
        x.glance(last, 0);
        x.pass(2);
        x.speak(last, 60);
        x.glance(0, last);
        x.pass(2);
        x.speak(0, 60);
        x.cough(last, 9);
        x.cough(0, 9);
        x.glance(last, 0);
        x.pass(1);
        return x;
    }

    private static void promise3LimitFromNowOn() {
        PauseLedger x = new PauseLedger();
        DUES.badArgument("3 limit 0", () -> x.setLimit(0));
        DUES.due("3 limit 1", () -> x.setLimit(1), 5);
        DUES.due("3 limit 2", () -> x.setLimit(2), 1);
        DUES.due("3 limit 29", () -> x.setLimit(29), 2);
        DUES.due("3 limit 30", () -> x.setLimit(30), 29);
        DUES.badArgument("3 limit 31", () -> x.setLimit(31));
        DUES.due("3 limit 30 again", () -> x.setLimit(30), 30);
        DUES.due("3 it is 30", x::limit, 30);
        x.newDinner(2);
        DUES.due("3 it stays at another dinner", () -> x.pass(29), 0);
        DUES.due("3 and counts there", () -> x.pass(1), 1);
    }

    private static void promise4SpeaksForOneToSixtySeconds() {
        PauseLedger x = new PauseLedger();
        DUES.badArgument("4 for 0 seconds", () -> x.speak(0, 0));
        DUES.badArgument("4 for 61 seconds", () -> x.speak(0, 61));
        DUES.due("4 nobody speaks by those", x::speaker, -1);
        for (int seconds : new int[] {1, 2, 59, 60}) {
            for (int guest : new int[] {0, 3}) {
                DUES.due("4 " + guest + " for " + seconds, () -> x.speak(guest, seconds), -1);
                DUES.due("4 seconds of " + seconds, x::secondsToSpeak, seconds);
                DUES.badArgument("4 not for 0 instead of " + seconds, () -> x.speak(guest, 0));
                DUES.badArgument("4 not for 61 instead of " + seconds, () -> x.speak(guest, 61));
                x.pass(Math.max(1, seconds - 1));
                DUES.due("4 speaker, of " + seconds, x::speaker, seconds > 1 ? guest : -1);
                x.pass(1);
                DUES.due("4 nobody, of " + seconds, x::speaker, -1);
            }
        }
    }

    private static void promise4GoesOnForThisTimeInstead() {
        for (int instead : new int[] {1, 9, 10, 11, 60}) {
            PauseLedger x = new PauseLedger();
            x.speak(1, 12);
            x.pass(2);
            DUES.due("4 goes on for " + instead, () -> x.speak(1, instead), -1);
            DUES.due("4 to speak instead, " + instead, x::secondsToSpeak, instead);
            DUES.due("4 spoken until then, " + instead, () -> x.spokenBy(1), 2);
            x.pass(61);
            DUES.due("4 spoken in all, " + instead, () -> x.spokenBy(1), 2 + instead);
            DUES.due("4 no interruption, " + instead, () -> x.interruptionsBy(1), 0);
        }
    }

    private static void promise4AnswersWhoIsInterrupted() {
        PauseLedger x = Tables.dinnerOf(10);
        DUES.due("4 none", () -> x.speak(9, 60), -1);
        DUES.due("4 the last one", () -> x.speak(0, 60), 9);
        DUES.due("4 the first one", () -> x.speak(9, 1), 0);
        DUES.due("4 the last one, with 1 second left", () -> x.speak(5, 1), 9);
        x.pass(1);
        DUES.due("4 none, with none left", () -> x.speak(9, 1), -1);
        x.newDinner(10);
        DUES.due("4 none of another dinner", () -> x.speak(0, 1), -1);
    }

    private static void promise5AnswersWhatIsLeftUnsaid() {
        PauseLedger x = Tables.dinnerOf(2);
        DUES.due("5 nobody speaks", () -> x.cough(1, 9), 9);
        x.speak(0, 1);
        DUES.due("5 another one speaks", () -> x.cough(1, 9), 4);
        DUES.due("5 another one speaks, weight 1", () -> x.cough(1, 1), 0);
        DUES.due("5 this one speaks", () -> x.cough(0, 9), 0);
        DUES.due("5 all three count", () -> x.coughsOf(1), 3);
        DUES.due("5 that one counts, too", () -> x.coughsOf(0), 1);
        DUES.due("5 a cough ends no speech", x::speaker, 0);
        DUES.due("5 a cough takes no time", x::seconds, 0);
        DUES.due("5 together", x::allUnsaid, 13);
    }

    private static void promise6AnswersTheSecondsUnderWay() {
        for (int guests = 2; guests <= 10; guests++) {
            PauseLedger x = Tables.dinnerOf(guests);
            for (int from = 0; from < guests; from++) {
                for (int to = 0; to < guests; to++) {
                    int a = from;
                    int b = to;
                    int steps = Math.abs(a - b);
                    int way = 2 * Math.min(steps, guests - steps);
                    String which = a + " at " + b + " of " + guests;
                    if (a == b) {
                        DUES.badArgument("6 " + which, () -> x.glance(a, b));
                    } else {
                        DUES.due("6 " + which, () -> x.glance(a, b), way);
                        DUES.due("6 to go, " + which, () -> x.secondsToGo(a, b), way);
                    }
                }
            }
            DUES.due("6 all glances of " + guests, x::glancesUnderWay, guests * (guests - 1));
            x.setLimit(30);
            DUES.due("6 all of them meet, " + guests, () -> x.pass(10), 3 * guests * (guests - 1));
            DUES.due("6 none is left of " + guests, x::glancesUnderWay, 0);
        }
    }

    private static void promise7OneToOneHundredAndTwentySeconds() {
        PauseLedger x = new PauseLedger();
        DUES.badArgument("7 pass(0)", () -> x.pass(0));
        DUES.badArgument("7 pass(121)", () -> x.pass(121));
        DUES.due("7 no second by those", x::seconds, 0);
        int sum = 0;
        for (int seconds : new int[] {1, 2, 119, 120}) {
            x.pass(seconds);
            sum += seconds;
            DUES.due("7 seconds behind pass(" + seconds + ")", x::seconds, sum);
        }
    }

    private static void promise7AnswersHowMuchMore() {
        for (int seconds = 1; seconds <= 120; seconds++) {
            PauseLedger atOnce = busyDinner();
            PauseLedger oneByOne = busyDinner();
            int sum = 0;
            for (int gone = 0; gone < seconds; gone++) {
                sum += oneByOne.pass(1);
            }
            int before = atOnce.allUnsaid();
            int more = atOnce.pass(seconds);
            DUES.due("7 as one by one, " + seconds, () -> more, sum);
            DUES.due("7 how much more, " + seconds, () -> atOnce.allUnsaid() - before, more);
            DUES.due("7 all as one by one, " + seconds, atOnce::digest, oneByOne.digest());
        }
    }

    private static PauseLedger busyDinner() {
        PauseLedger x = Tables.dinnerOf(9);
        x.setLimit(3);
        x.cough(0, 7);
        x.pass(2);
        x.glance(0, 4);
        x.glance(1, 4);
        x.glance(7, 8);
        x.pass(1);
        x.glance(4, 0);
        x.glance(3, 4);
        x.glance(5, 0);
        x.speak(4, 5);
        return x;
    }

    private static void promise8To10TheTable() {
        for (int guests = 2; guests <= 10; guests++) {
            PauseLedger x = Tables.dinnerOf(guests);
            DUES.due("8 guests", x::guests, guests);
            DUES.due("9 seconds went by at this dinner", x::seconds, 0);
            x.pass(guests);
            DUES.due("9 seconds", x::seconds, guests);
            x.setLimit(3 * guests);
            DUES.due("10 limit", x::limit, 3 * guests);
            DUES.badArgument("8 refused", () -> x.newDinner(11));
            DUES.badArgument("10 refused", () -> x.setLimit(31));
            DUES.badArgument("9 refused", () -> x.pass(121));
            DUES.due("8 guests still", x::guests, guests);
            DUES.due("9 seconds still", x::seconds, guests);
            DUES.due("10 limit still", x::limit, 3 * guests);
        }
    }

    private static void promise11ZeroForTheSame() {
        for (int guests = 2; guests <= 10; guests++) {
            PauseLedger x = Tables.dinnerOf(guests);
            int beyond = guests;
            for (int guest = 0; guest < guests; guest++) {
                int a = guest;
                int next = (guest + 1) % guests;
                DUES.due("11 the same, " + a + " of " + guests, () -> x.seatsApart(a, a), 0);
                DUES.due("11 the next one, " + a + " of " + guests, () -> x.seatsApart(a, next), 1);
                DUES.due("11 the one before, " + a + " of " + guests, () -> x.seatsApart(next, a), 1);
            }
            DUES.noGuest("11 the same, -1", () -> x.seatsApart(-1, -1));
            DUES.noGuest("11 the same, " + guests, () -> x.seatsApart(beyond, beyond));
        }
    }

    private static void promise12And13NobodySpeaks() {
        PauseLedger x = new PauseLedger();
        DUES.due("12 nobody", x::speaker, -1);
        DUES.due("13 nobody", x::secondsToSpeak, 0);
        x.speak(0, 1);
        DUES.due("12 guest 0", x::speaker, 0);
        DUES.due("13 guest 0", x::secondsToSpeak, 1);
        x.allUnsaidIn(120);
        x.ratingIn(120);
        DUES.due("12 guest 0 still", x::speaker, 0);
        DUES.due("13 guest 0 still", x::secondsToSpeak, 1);
        x.pass(1);
        DUES.due("12 nobody again", x::speaker, -1);
        DUES.due("13 nobody again", x::secondsToSpeak, 0);
        x.speak(3, 60);
        x.newDinner(4);
        DUES.due("12 nobody at another dinner", x::speaker, -1);
        DUES.due("13 nobody at another dinner", x::secondsToSpeak, 0);
    }

    private static void promise14Pause() {
        PauseLedger x = new PauseLedger();
        x.speak(0, 60);
        DUES.due("14 the dinner begins with a speech", x::pause, 0);
        x.pass(60);
        DUES.due("14 at its end", x::pause, 0);
        x.pass(1);
        DUES.due("14 1 second behind it", x::pause, 1);
        x.pass(120);
        DUES.due("14 121 seconds behind it", x::pause, 121);
        x.setLimit(1);
        x.cough(0, 9);
        x.glance(0, 1);
        DUES.due("14 neither coughs nor glances are speaking", x::pause, 121);
        x.speak(0, 1);
        DUES.due("14 nobody spoke since then yet", x::pause, 121);
        x.pass(1);
        DUES.due("14 now somebody has", x::pause, 0);
    }

    private static void promise15To18EachGuestItsOwn() {
        for (int guests = 2; guests <= 10; guests++) {
            for (int guest = 0; guest < guests; guest++) {
                PauseLedger x = Tables.dinnerOf(guests);
                int other = (guest + 1) % guests;
                x.cough(guest, 9);
                x.cough(guest, 1);
                x.speak(other, 7);
                x.speak(guest, 3);
                x.pass(4);
                for (int each = 0; each < guests; each++) {
                    int who = each;
                    boolean it = each == guest;
                    String which = each + " of " + guests + ", by " + guest;
                    DUES.due("15 spoken, " + which, () -> x.spokenBy(who), it ? 3 : 0);
                    DUES.due("16 interruptions, " + which, () -> x.interruptionsBy(who), it ? 1 : 0);
                    DUES.due("17 coughs, " + which, () -> x.coughsOf(who), it ? 2 : 0);
                    DUES.due("18 unsaid, " + which, () -> x.unsaidBy(who), it ? 10 : 0);
                }
            }
        }
    }

    private static void promise19And20TheSame() {
        PauseLedger x = Tables.dinnerOf(10);
        x.glance(0, 9);
        x.glance(9, 0);
        x.glance(4, 9);
        for (int guest = 0; guest < 10; guest++) {
            int each = guest;
            DUES.due("19 the same, " + guest, () -> x.isUnderWay(each, each), false);
            DUES.due("20 the same, " + guest, () -> x.secondsToGo(each, each), 0);
        }
        DUES.due("19 one way", () -> x.isUnderWay(4, 9), true);
        DUES.due("19 not the other", () -> x.isUnderWay(9, 4), false);
        DUES.due("20 one way", () -> x.secondsToGo(4, 9), 10);
        DUES.due("20 not the other", () -> x.secondsToGo(9, 4), 0);
        x.pass(1);
        DUES.due("20 the last second", () -> x.secondsToGo(0, 9), 1);
        DUES.due("19 in the last second", () -> x.isUnderWay(9, 0), true);
        x.pass(1);
        DUES.due("20 behind it", () -> x.secondsToGo(0, 9), 0);
        DUES.due("19 behind it", () -> x.isUnderWay(9, 0), false);
    }

    private static void promise21ThoseThatMetDoNotCount() {
        PauseLedger x = Tables.dinnerOf(2);
        x.glance(0, 1);
        x.pass(1);
        x.glance(1, 0);
        x.pass(1);
        DUES.due("21 met, the one", () -> x.caughtBy(0, 1), 0);
        DUES.due("21 met, the other", () -> x.caughtBy(1, 0), 0);
        x.glance(0, 1);
        x.pass(2);
        x.glance(1, 0);
        DUES.due("21 caught, the one", () -> x.caughtBy(0, 1), 1);
        DUES.due("21 not there yet, the other", () -> x.caughtBy(1, 0), 0);
        x.pass(2);
        DUES.due("21 caught, the other", () -> x.caughtBy(1, 0), 1);
        x.glance(0, 1);
        x.speak(1, 3);
        x.pass(2);
        DUES.due("21 lost", () -> x.caughtBy(0, 1), 1);
        DUES.due("21 the same", () -> x.caughtBy(0, 0), 0);
    }

    private static void promise22And23UnsaidInAll() {
        PauseLedger x = Tables.dinnerOf(10);
        for (int guest = 0; guest < 10; guest++) {
            x.cough(guest, 9);
        }
        DUES.due("22 none by coughs", x::unsaidInPauses, 0);
        DUES.due("23 of the guests", x::allUnsaid, 90);
        x.pass(4);
        DUES.due("23 before the limit", x::allUnsaid, 90);
        x.pass(1);
        DUES.due("22 at the limit", x::unsaidInPauses, 1);
        DUES.due("23 of guests and pauses", x::allUnsaid, 91);
        x.glance(0, 1);
        x.pass(2);
        DUES.due("22 none by glances", x::unsaidInPauses, 1);
        DUES.due("23 with a glance", x::allUnsaid, 92);
        x.newDinner(10);
        DUES.due("22 at another dinner", x::unsaidInPauses, 0);
        DUES.due("23 at another dinner", x::allUnsaid, 0);
    }

    private static void promise24To26Glances() {
        PauseLedger x = Tables.dinnerOf(10);
        DUES.due("24 none", x::glancesUnderWay, 0);
        x.glance(0, 1);
        x.glance(1, 0);
        x.glance(5, 4);
        x.glance(6, 2);
        x.speak(4, 60);
        DUES.badState("24 one that is under way", () -> x.glance(0, 1));
        DUES.due("24 four", x::glancesUnderWay, 4);
        x.pass(1);
        DUES.due("25 not yet", x::meetings, 0);
        DUES.due("26 not yet", x::lostGlances, 0);
        x.pass(1);
        DUES.due("24 one is left", x::glancesUnderWay, 1);
        DUES.due("25 one meeting of two glances", x::meetings, 1);
        DUES.due("26 one is lost", x::lostGlances, 1);
        x.speak(2, 60);
        x.pass(6);
        DUES.due("24 none is left", x::glancesUnderWay, 0);
        DUES.due("26 two are lost", x::lostGlances, 2);
        DUES.due("25 still one", x::meetings, 1);
    }

    private static void promise27OfSeveralTheSmallest() {
        for (int guests = 2; guests <= 10; guests++) {
            int last = guests - 1;
            PauseLedger x = Tables.dinnerOf(guests);
            DUES.due("27 nobody left anything, " + guests, x::quietest, 0);
            x.cough(last, 2);
            DUES.due("27 the last one, " + guests, x::quietest, last);
            x.cough(0, 1);
            DUES.due("27 the first one has 1 less, " + guests, x::quietest, last);
            x.cough(0, 1);
            DUES.due("27 the first one has as much, " + guests, x::quietest, 0);
            x.cough(last, 1);
            DUES.due("27 the last one has 1 more, " + guests, x::quietest, last);
            x.cough(last - 1, 3);
            DUES.due("27 the last but one", x::quietest, last - 1);
        }
    }

    private static void promise28RatingNow() {
        PauseLedger x = new PauseLedger();
        DUES.due("28 nothing unsaid", x::rating, 6);
        x.cough(0, 3);
        DUES.due("28 3 of 4", x::rating, 6);
        x.cough(0, 1);
        DUES.due("28 4 of 4", x::rating, 7);
        x.cough(3, 9);
        x.cough(3, 2);
        DUES.due("28 15 of 4", x::rating, 9);
        x.pass(5);
        DUES.due("28 16 of 4", x::rating, 10);
        x.cough(3, 3);
        DUES.due("28 19 of 4", x::rating, 10);
        x.pass(5);
        DUES.due("28 20 of 4", x::rating, 9);
    }

    private static void promise29AllUnsaidIn() {
        comparedWithWhatComes("29", x -> x.allUnsaidIn(0), PauseLedger::allUnsaidIn, PauseLedger::allUnsaid);
    }

    private static void comparedWithWhatComes(String promise, Asked refused, AskedWithSeconds wouldBe, Asked comes) {
        Made[] dinners = {PromiseBordersTest::busyDinner, PromiseBordersTest::silentDinner, PauseLedger::new,
            PromiseBordersTest::secondDinner};
        for (Made dinner : dinners) {
            PauseLedger x = dinner.make();
            long before = x.digest();
            DUES.badArgument(promise + " in 0 seconds", () -> refused.askOf(x));
            DUES.badArgument(promise + " in 121 seconds", () -> wouldBe.askOf(x, 121));
            for (int seconds = 1; seconds <= 120; seconds++) {
                int behind = seconds;
                PauseLedger lived = dinner.make();
                lived.pass(seconds);
                DUES.due(promise + " in " + seconds, () -> wouldBe.askOf(x, behind), comes.askOf(lived));
            }
            DUES.due(promise + " nothing is changed", x::digest, before);
            x.pass(120);
            PauseLedger spared = dinner.make();
            spared.pass(120);
            DUES.compare(promise + " nothing is changed later", Tables.allAnswersOf(x), Tables.allAnswersOf(spared));
        }
    }

    /** In the middle of a pause. */
    private static PauseLedger silentDinner() {
        PauseLedger x = Tables.dinnerOf(3);
        x.setLimit(7);
        x.pass(5);
        x.glance(2, 0);
        return x;
    }

    /** What was asked at a dinner of before must leave nothing for this one. */
    private static PauseLedger secondDinner() {
        PauseLedger x = busyDinner();
        x.allUnsaidIn(2);
        x.ratingIn(1);
        x.newDinner(2);
        x.glance(1, 0);
        return x;
    }

    private static void promise30SecondsUntilPauseCounts() {
        for (int limit : new int[] {1, 2, 3, 5, 29, 30}) {
            for (int pause = 0; pause <= 2 * limit + 1; pause++) {
                for (int speech : new int[] {0, 1, 2, 59, 60}) {
                    PauseLedger x = new PauseLedger();
                    Tables.passAll(x, pause);
                    x.setLimit(limit);
                    if (speech > 0) {
                        x.speak(0, speech);
                    }
                    countsBehind(x, "30 limit " + limit + ", pause " + pause + ", speech " + speech,
                        speech > 0 ? speech + limit : limit - pause % limit);
                }
            }
        }
    }

    private static void countsBehind(PauseLedger x, String which, int want) {
        long digest = x.digest();
        int before = x.unsaidInPauses();
        DUES.due(which, x::secondsUntilPauseCounts, want);
        DUES.due(which + ", nothing is changed", x::digest, digest);
        if (want > 1) {
            x.pass(want - 1);
            DUES.due(which + ", a second before", x::unsaidInPauses, before);
            DUES.due(which + ", 1 second is left", x::secondsUntilPauseCounts, 1);
        }
        x.pass(1);
        DUES.due(which + ", it counts", x::unsaidInPauses, before + 1);
    }

    private static void promise31WouldLeave() {
        for (int guests : new int[] {2, 3, 9, 10}) {
            for (int to = 1; to <= guests / 2; to++) {
                int way = 2 * to;
                for (int speech = 0; speech <= way + 2; speech++) {
                    for (int ahead = -1; ahead <= way + 1; ahead++) {
                        leavesAsItComes(guests, to, speech, ahead);
                    }
                }
            }
        }
    }

    /** speech 0: the other one does not speak; ahead -1: no glance comes back. */
    private static PauseLedger beforeGlance(int guests, int to, int speech, int ahead) {
        PauseLedger x = Tables.dinnerOf(guests);
        if (ahead >= 0) {
            x.glance(to, 0);
        }
        if (ahead > 0) {
            x.pass(ahead);
        }
        if (speech > 0) {
            x.speak(to, speech);
        }
        return x;
    }

    private static void leavesAsItComes(int guests, int to, int speech, int ahead) {
        PauseLedger x = beforeGlance(guests, to, speech, ahead);
        String which = "31 at " + to + " of " + guests + ", speech " + speech + ", ahead " + ahead;
        boolean meets = ahead >= 0 && ahead < 2 * to;
        int want = meets ? 3 : speech > 2 * to ? 0 : 1;
        long before = x.digest();
        DUES.due(which, () -> x.wouldLeave(0, to), want);
        DUES.due(which + ", nothing is changed", x::digest, before);
        DUES.due(which + ", as it comes", () -> fateOfOneSent(x, 0, to), want);
    }

    /** What becomes of a glance, found by sending it. */
    private static int fateOfOneSent(PauseLedger x, int from, int to) {
        int meetings = x.meetings();
        int caught = x.caughtBy(from, to);
        x.glance(from, to);
        while (x.isUnderWay(from, to)) {
            x.pass(1);
        }
        return x.meetings() > meetings ? 3 : x.caughtBy(from, to) - caught;
    }

    private static void promise32BestMomentIsTheFirst() {
        for (int guests : new int[] {2, 3, 10}) {
            for (int to = 1; to <= guests / 2; to++) {
                for (int speech = 0; speech <= 60; speech++) {
                    bestAsItComes(guests, to, speech, -1);
                    bestAsItComes(guests, to, speech, 1);
                }
            }
        }
    }

    private static void bestAsItComes(int guests, int to, int speech, int ahead) {
        PauseLedger x = beforeGlance(guests, to, speech, ahead);
        String which = "32 at " + to + " of " + guests + ", speech " + speech + ", ahead " + ahead;
        long before = x.digest();
        int want = ahead >= 0 ? 0 : Math.max(0, speech - 2 * to);
        DUES.due(which, () -> x.bestMoment(0, to), want);
        DUES.due(which + ", nothing is changed", x::digest, before);
        if (want > 0) {
            PauseLedger early = beforeGlance(guests, to, speech, ahead);
            Tables.passAll(early, want - 1);
            DUES.due(which + ", a second before", () -> fateOfOneSent(early, 0, to), 0);
        }
        Tables.passAll(x, want);
        DUES.due(which + ", then", () -> fateOfOneSent(x, 0, to) > 0, true);
    }

    private static void promise32ZeroToSixty() {
        PauseLedger x = Tables.dinnerOf(2);
        x.speak(1, 60);
        DUES.due("32 the longest speech beside", () -> x.bestMoment(0, 1), 58);
        x.pass(57);
        DUES.due("32 3 seconds of speech", () -> x.bestMoment(0, 1), 1);
        x.pass(1);
        DUES.due("32 2 seconds of speech", () -> x.bestMoment(0, 1), 0);
        x.pass(1);
        DUES.due("32 1 second of speech", () -> x.bestMoment(0, 1), 0);
        x.pass(1);
        DUES.due("32 no speech any more", () -> x.bestMoment(0, 1), 0);
    }

    private static void promise32AtItsBorders() {
        PauseLedger x = Tables.dinnerOf(10);
        x.speak(0, 60);
        x.glance(0, 5);
        x.pass(9);
        DUES.due("32 one comes back for 1 second more", () -> x.bestMoment(5, 0), 0);
        DUES.due("32 which it would meet", () -> x.wouldLeave(5, 0), 3);
        x.pass(1);
        DUES.due("32 none comes back any more", () -> x.bestMoment(5, 0), 40);
        DUES.due("32 it would be lost now", () -> x.wouldLeave(5, 0), 0);
        DUES.due("32 who speaks may glance", () -> x.bestMoment(0, 5), 0);
        x.speak(1, 60);
        DUES.due("32 the interrupted one does not speak", () -> x.bestMoment(5, 0), 0);
        x.glance(5, 0);
        DUES.badState("32 under way", () -> x.bestMoment(5, 0));
        x.pass(9);
        DUES.badState("32 under way for 1 second more", () -> x.bestMoment(5, 0));
        x.pass(1);
        DUES.due("32 under way no more", () -> x.bestMoment(5, 0), 0);
    }

    private static void promise33RatingIn() {
        comparedWithWhatComes("33", x -> x.ratingIn(0), PauseLedger::ratingIn, PauseLedger::rating);
        PauseLedger x = Tables.dinnerOf(2);
        x.setLimit(1);
        DUES.due("33 7 of 2", () -> x.ratingIn(7), 9);
        DUES.due("33 8 of 2", () -> x.ratingIn(8), 10);
        DUES.due("33 27 of 2", () -> x.ratingIn(27), 1);
        DUES.due("33 28 of 2", () -> x.ratingIn(28), 0);
        DUES.due("33 120 of 2", () -> x.ratingIn(120), 0);
        DUES.due("33 nothing is changed", x::rating, 6);
    }

    private static void promise34MeanOfGuestsAlone() {
        for (int guests = 2; guests <= 10; guests++) {
            PauseLedger x = Tables.dinnerOf(guests);
            DUES.due("34 nothing of " + guests, x::meanUnsaid, 0.0);
            x.setLimit(1);
            x.pass(7);
            DUES.due("34 pauses do not count, " + guests, x::meanUnsaid, 0.0);
            for (int unsaid = 1; unsaid <= 2 * guests + 1; unsaid++) {
                x.cough(unsaid % guests, 1);
                DUES.due("34 " + unsaid + " of " + guests, x::meanUnsaid, (double) unsaid / guests);
            }
        }
    }

    private static void promise35DigestWrapsAround() {
        for (int guests = 2; guests <= 8; guests++) {
            PauseLedger x = livedThrough(guests);
            BigInteger whole = BigInteger.valueOf(1973);
            for (long number : numbersOfDigest(x)) {
                whole = whole.multiply(BigInteger.valueOf(31)).add(BigInteger.valueOf(number));
            }
            DUES.due("35 digest of " + guests, x::digest, whole.longValue());
            boolean wraps = whole.bitLength() > 64;
            DUES.due("35 it wraps around, " + guests, () -> wraps, true);
        }
    }

    private static List<Long> numbersOfDigest(PauseLedger x) {
        List<Long> numbers = new ArrayList<>();
        int[] table = {x.guests(), x.seconds(), x.limit(), x.speaker(), x.secondsToSpeak(), x.pause(),
            x.unsaidInPauses(), x.glancesUnderWay(), x.meetings(), x.lostGlances(), x.rating()};
        for (int number : table) {
            numbers.add((long) number);
        }
        for (int guest = 0; guest < x.guests(); guest++) {
            numbers.add((long) x.spokenBy(guest));
            numbers.add((long) x.interruptionsBy(guest));
            numbers.add((long) x.coughsOf(guest));
            numbers.add((long) x.unsaidBy(guest));
            for (int to = 0; to < x.guests(); to++) {
                numbers.add((long) x.secondsToGo(guest, to));
                numbers.add((long) x.caughtBy(guest, to));
            }
        }
        return numbers;
    }

    private static void promise35DigestOfANewObject() {
        PauseLedger x = new PauseLedger();
        // Reckoned by another program, from the document's words.
        DUES.due("35 digest of a new object", x::digest, -1690361274992620453L);
        DUES.due("35 it changes nothing", x::digest, -1690361274992620453L);
    }

    // "An object is used for at most 512 calls after it has been made"

    private static void objectIsUsedFor512Calls() {
        PauseLedger x = Tables.dinnerOf(10);
        x.setLimit(1);
        for (int call = 3; call <= 510; call++) {
            x.pass(120);
        }
        DUES.due("the 511th call", x::allUnsaid, 508 * 120);
        DUES.due("the 512th call", () -> x.pass(120), 120);
        PauseLedger refused = new PauseLedger();
        for (int call = 1; call <= 511; call++) {
            DUES.noGuest("refused call " + call, () -> refused.glance(4, 4));
        }
        DUES.due("the 512th call, behind refused ones", () -> refused.glance(0, 3), 2);
        PauseLedger coughs = new PauseLedger();
        for (int call = 1; call <= 511; call++) {
            coughs.cough(3, 9);
        }
        DUES.due("the 512th call, behind coughs", () -> coughs.unsaidBy(3), 511 * 9);
    }
}
