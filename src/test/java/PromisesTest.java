/** Each promise of the document, one method for each. */
final class PromisesTest {
    private static final Dues DUES = new Dues();

    public static void main(String[] args) {
        promise1NewObject();
        promise2NewDinner();
        promise2ForgetsAllButTheLimit();
        promise3SetLimit();
        promise4Speak();
        promise5Cough();
        promise6Glance();
        promise7Pass();
        promise7OrderOfTheSteps();
        promise8Guests();
        promise9Seconds();
        promise10Limit();
        promise11SeatsApart();
        promise12Speaker();
        promise13SecondsToSpeak();
        promise14Pause();
        promise15SpokenBy();
        promise16InterruptionsBy();
        promise17CoughsOf();
        promise18UnsaidBy();
        promise19IsUnderWay();
        promise20SecondsToGo();
        promise21CaughtBy();
        promise22UnsaidInPauses();
        promise23AllUnsaid();
        promise24GlancesUnderWay();
        promise25Meetings();
        promise26LostGlances();
        promise27Quietest();
        promise28Rating();
        promise29AllUnsaidIn();
        promise30SecondsUntilPauseCounts();
        promise31WouldLeave();
        promise32BestMoment();
        promise33RatingIn();
        promise34MeanUnsaid();
        promise35Digest();
        thrownCallsChangeNothing();
        DUES.end();
    }

    private static void promise1NewObject() {
        PauseLedger x = new PauseLedger();
        DUES.due("1 guests", x::guests, 4);
        DUES.due("1 limit", x::limit, 5);
        DUES.due("1 seconds", x::seconds, 0);
        DUES.due("1 speaker", x::speaker, -1);
        DUES.due("1 secondsToSpeak", x::secondsToSpeak, 0);
        DUES.due("1 pause", x::pause, 0);
        DUES.due("1 allUnsaid", x::allUnsaid, 0);
        DUES.due("1 unsaidInPauses", x::unsaidInPauses, 0);
        DUES.due("1 glancesUnderWay", x::glancesUnderWay, 0);
        DUES.due("1 meetings", x::meetings, 0);
        DUES.due("1 lostGlances", x::lostGlances, 0);
        PauseLedger other = new PauseLedger();
        x.cough(0, 9);
        DUES.due("1 another object", other::allUnsaid, 0);
    }

    private static void promise2NewDinner() {
        PauseLedger x = new PauseLedger();
        DUES.badArgument("2 newDinner(1)", () -> x.newDinner(1));
        DUES.badArgument("2 newDinner(11)", () -> x.newDinner(11));
        DUES.badArgument("2 newDinner(0)", () -> x.newDinner(0));
        DUES.badArgument("2 newDinner(MIN)", () -> x.newDinner(Integer.MIN_VALUE));
        DUES.badArgument("2 newDinner(MAX)", () -> x.newDinner(Integer.MAX_VALUE));
        DUES.due("2 guests, behind those", x::guests, 4);
        x.cough(0, 9);
        x.cough(1, 7);
        DUES.due("2 newDinner(2)", () -> x.newDinner(2), 10);
        DUES.due("2 guests of 2", x::guests, 2);
        DUES.due("2 newDinner(10)", () -> x.newDinner(10), 6);
        DUES.due("2 guests of 10", x::guests, 10);
    }

    private static void promise2ForgetsAllButTheLimit() {
        PauseLedger x = Tables.dinnerOf(10);
        x.setLimit(3);
        x.pass(9);
        x.glance(0, 5);
        x.glance(1, 0);
        x.glance(2, 3);
        x.glance(3, 2);
        x.speak(0, 9);
        x.pass(9);
        x.glance(7, 8);
        x.pass(4);
        x.glance(0, 5);
        x.glance(2, 7);
        x.speak(8, 60);
        x.speak(9, 60);
        x.cough(1, 9);
        x.newDinner(10);
        DUES.due("2 limit stays", x::limit, 3);
        DUES.due("2 seconds", x::seconds, 0);
        DUES.due("2 speaker", x::speaker, -1);
        DUES.due("2 secondsToSpeak", x::secondsToSpeak, 0);
        DUES.due("2 pause", x::pause, 0);
        DUES.due("2 allUnsaid", x::allUnsaid, 0);
        DUES.due("2 unsaidInPauses", x::unsaidInPauses, 0);
        DUES.due("2 glancesUnderWay", x::glancesUnderWay, 0);
        DUES.due("2 isUnderWay", () -> x.isUnderWay(0, 5), false);
        DUES.due("2 meetings", x::meetings, 0);
        DUES.due("2 lostGlances", x::lostGlances, 0);
        PauseLedger fresh = Tables.dinnerOf(10);
        fresh.setLimit(3);
        DUES.due("2 digest as of a new one", x::digest, fresh.digest());
        DUES.due("2 glance anew", () -> x.glance(0, 5), 10);
    }

    private static void promise3SetLimit() {
        PauseLedger x = new PauseLedger();
        DUES.badArgument("3 setLimit(0)", () -> x.setLimit(0));
        DUES.badArgument("3 setLimit(31)", () -> x.setLimit(31));
        DUES.badArgument("3 setLimit(-1)", () -> x.setLimit(-1));
        DUES.due("3 setLimit(1)", () -> x.setLimit(1), 5);
        DUES.due("3 pass(3), limit 1", () -> x.pass(3), 3);
        DUES.due("3 setLimit(30)", () -> x.setLimit(30), 1);
        DUES.due("3 pass(26), limit 30", () -> x.pass(26), 0);
        DUES.due("3 pass(1), limit 30", () -> x.pass(1), 1);
        DUES.due("3 setLimit(7)", () -> x.setLimit(7), 30);
        DUES.due("3 pass(4), the pause goes on", () -> x.pass(4), 0);
        DUES.due("3 pass(1), the pause can be divided by 7", () -> x.pass(1), 1);
    }

    private static void promise4Speak() {
        PauseLedger x = new PauseLedger();
        DUES.noGuest("4 speak(-1, 1)", () -> x.speak(-1, 1));
        DUES.noGuest("4 speak(4, 1)", () -> x.speak(4, 1));
        DUES.noGuest("4 speak(4, 0), the guest first", () -> x.speak(4, 0));
        DUES.badArgument("4 speak(0, 0)", () -> x.speak(0, 0));
        DUES.badArgument("4 speak(3, 61)", () -> x.speak(3, 61));
        DUES.due("4 nobody speaks", x::speaker, -1);
        DUES.due("4 speak(0, 60)", () -> x.speak(0, 60), -1);
        DUES.due("4 speak(0, 2), goes on", () -> x.speak(0, 2), -1);
        DUES.due("4 for this time instead", x::secondsToSpeak, 2);
        DUES.due("4 no interruption of oneself", () -> x.interruptionsBy(0), 0);
        DUES.due("4 speak(3, 1), interrupts", () -> x.speak(3, 1), 0);
        DUES.due("4 interruptionsBy(3)", () -> x.interruptionsBy(3), 1);
        x.pass(1);
        DUES.due("4 speak(1, 1), nobody is left", () -> x.speak(1, 1), -1);
        DUES.due("4 interruptionsBy(1)", () -> x.interruptionsBy(1), 0);
        x.pass(5);
        DUES.due("4 the interrupted one has not spoken", () -> x.spokenBy(0), 0);
        DUES.due("4 spokenBy(3)", () -> x.spokenBy(3), 1);
        DUES.due("4 pause", x::pause, 4);
    }

    private static void promise5Cough() {
        PauseLedger x = new PauseLedger();
        DUES.noGuest("5 cough(-1, 1)", () -> x.cough(-1, 1));
        DUES.noGuest("5 cough(4, 10), the guest first", () -> x.cough(4, 10));
        DUES.badArgument("5 cough(0, 0)", () -> x.cough(0, 0));
        DUES.badArgument("5 cough(0, 10)", () -> x.cough(0, 10));
        DUES.due("5 cough(0, 1)", () -> x.cough(0, 1), 1);
        DUES.due("5 cough(3, 9)", () -> x.cough(3, 9), 9);
        x.speak(0, 1);
        DUES.due("5 cough(1, 1), another one speaks", () -> x.cough(1, 1), 0);
        DUES.due("5 cough(1, 2), another one speaks", () -> x.cough(1, 2), 1);
        DUES.due("5 cough(1, 9), another one speaks", () -> x.cough(1, 9), 4);
        DUES.due("5 cough(0, 9), this one speaks", () -> x.cough(0, 9), 0);
        DUES.due("5 unsaidBy(0)", () -> x.unsaidBy(0), 1);
        DUES.due("5 unsaidBy(1)", () -> x.unsaidBy(1), 5);
        DUES.due("5 unsaidBy(3)", () -> x.unsaidBy(3), 9);
        x.pass(1);
        DUES.due("5 cough(1, 9), nobody speaks any more", () -> x.cough(1, 9), 9);
    }

    private static void promise6Glance() {
        PauseLedger x = Tables.dinnerOf(10);
        DUES.noGuest("6 glance(10, 0)", () -> x.glance(10, 0));
        DUES.noGuest("6 glance(0, 10)", () -> x.glance(0, 10));
        DUES.noGuest("6 glance(0, -1)", () -> x.glance(0, -1));
        DUES.noGuest("6 glance(-1, -1), the guest first", () -> x.glance(-1, -1));
        DUES.badArgument("6 glance(9, 9)", () -> x.glance(9, 9));
        DUES.due("6 across the table", () -> x.glance(0, 5), 10);
        DUES.due("6 back", () -> x.glance(5, 0), 10);
        DUES.due("6 beside, the last one", () -> x.glance(9, 0), 2);
        DUES.due("6 beside, to the last one", () -> x.glance(0, 9), 2);
        DUES.due("6 three seats", () -> x.glance(8, 1), 6);
        DUES.badState("6 glance(0, 5) again", () -> x.glance(0, 5));
        DUES.badState("6 glance(9, 0) again", () -> x.glance(9, 0));
        x.pass(2);
        DUES.due("6 glance(9, 0), the first is over", () -> x.glance(9, 0), 2);
        DUES.badState("6 glance(8, 1) again", () -> x.glance(8, 1));
        PauseLedger two = Tables.dinnerOf(2);
        DUES.due("6 of two guests", () -> two.glance(1, 0), 2);
        DUES.noGuest("6 of two guests, a third", () -> two.glance(1, 2));
        PauseLedger full = Tables.dinnerOf(10);
        for (int from = 0; from < 10; from++) {
            for (int to = 0; to < 10; to++) {
                if (from != to) {
                    full.glance(from, to);
                }
            }
        }
        DUES.due("6 everybody at everybody", full::glancesUnderWay, 90);
        DUES.due("6 all meet", () -> full.pass(10), 45 * 6 + 2);
        DUES.due("6 all have met", full::meetings, 45);
    }

    private static void promise7Pass() {
        PauseLedger x = new PauseLedger();
        DUES.badArgument("7 pass(0)", () -> x.pass(0));
        DUES.badArgument("7 pass(121)", () -> x.pass(121));
        DUES.badArgument("7 pass(-5)", () -> x.pass(-5));
        DUES.due("7 no second went by", x::seconds, 0);
        DUES.due("7 pass(1)", () -> x.pass(1), 0);
        DUES.due("7 pass(120)", () -> x.pass(120), 24);
        x.cough(0, 9);
        DUES.due("7 pass(4), without what was before", () -> x.pass(4), 1);
        x.glance(0, 1);
        x.glance(2, 3);
        x.glance(3, 2);
        DUES.due("7 caught, met", () -> x.pass(2), 7);
    }

    private static void promise7OrderOfTheSteps() {
        PauseLedger x = new PauseLedger();
        x.glance(0, 1);
        x.speak(1, 2);
        DUES.due("7 who ends to speak in this second catches it", () -> x.pass(2), 1);
        DUES.due("7 caughtBy", () -> x.caughtBy(0, 1), 1);
        x.glance(0, 1);
        x.speak(1, 3);
        DUES.due("7 who still speaks loses it", () -> x.pass(2), 0);
        DUES.due("7 lostGlances", x::lostGlances, 1);
        x.glance(0, 1);
        x.speak(0, 9);
        DUES.due("7 while the one who glances speaks", () -> x.pass(2), 1);
        x.speak(1, 60);
        x.glance(0, 1);
        x.pass(1);
        x.glance(1, 0);
        DUES.due("7 they meet, though one speaks", () -> x.pass(1), 6);
        DUES.due("7 both are over", x::glancesUnderWay, 0);
        DUES.due("7 nothing more of them", () -> x.pass(2), 0);
        DUES.due("7 no more is lost", x::lostGlances, 1);
    }

    private static void promise8Guests() {
        DUES.due("8 guests, 2", Tables.dinnerOf(2)::guests, 2);
        DUES.due("8 guests, 7", Tables.dinnerOf(7)::guests, 7);
        DUES.due("8 guests, 10", Tables.dinnerOf(10)::guests, 10);
    }

    private static void promise9Seconds() {
        PauseLedger x = new PauseLedger();
        x.pass(1);
        DUES.due("9 seconds", x::seconds, 1);
        x.speak(0, 60);
        x.pass(120);
        DUES.due("9 seconds, with speaking", x::seconds, 121);
        x.allUnsaidIn(5);
        x.newDinner(3);
        DUES.due("9 seconds of another dinner", x::seconds, 0);
    }

    private static void promise10Limit() {
        PauseLedger x = new PauseLedger();
        DUES.due("10 limit", x::limit, 5);
        x.setLimit(30);
        DUES.due("10 limit, 30", x::limit, 30);
        x.newDinner(3);
        DUES.due("10 limit of another dinner", x::limit, 30);
        x.setLimit(1);
        DUES.due("10 limit, 1", x::limit, 1);
    }

    private static void promise11SeatsApart() {
        PauseLedger x = Tables.dinnerOf(10);
        DUES.due("11 the same", () -> x.seatsApart(9, 9), 0);
        DUES.due("11 across the table", () -> x.seatsApart(2, 7), 5);
        DUES.due("11 the last beside the first", () -> x.seatsApart(9, 0), 1);
        DUES.due("11 the first beside the last", () -> x.seatsApart(0, 9), 1);
        DUES.due("11 the shorter way round", () -> x.seatsApart(1, 8), 3);
        DUES.noGuest("11 seatsApart(10, 10)", () -> x.seatsApart(10, 10));
        DUES.noGuest("11 seatsApart(0, 10)", () -> x.seatsApart(0, 10));
        DUES.noGuest("11 seatsApart(-1, 0)", () -> x.seatsApart(-1, 0));
        PauseLedger odd = Tables.dinnerOf(7);
        DUES.due("11 of 7, 0 and 3", () -> odd.seatsApart(0, 3), 3);
        DUES.due("11 of 7, 0 and 4", () -> odd.seatsApart(0, 4), 3);
        DUES.due("11 of 2", () -> Tables.dinnerOf(2).seatsApart(0, 1), 1);
        DUES.noGuest("11 of 2, a third", () -> Tables.dinnerOf(2).seatsApart(0, 2));
    }

    private static void promise12Speaker() {
        PauseLedger x = new PauseLedger();
        x.speak(3, 2);
        DUES.due("12 speaker at once", x::speaker, 3);
        x.pass(1);
        DUES.due("12 speaker", x::speaker, 3);
        x.speak(0, 60);
        DUES.due("12 who interrupts", x::speaker, 0);
        x.pass(59);
        DUES.due("12 still", x::speaker, 0);
        x.pass(1);
        DUES.due("12 nobody", x::speaker, -1);
    }

    private static void promise13SecondsToSpeak() {
        PauseLedger x = new PauseLedger();
        x.speak(1, 60);
        DUES.due("13 60 seconds", x::secondsToSpeak, 60);
        x.pass(59);
        DUES.due("13 1 second", x::secondsToSpeak, 1);
        x.pass(1);
        DUES.due("13 nobody", x::secondsToSpeak, 0);
        x.pass(1);
        DUES.due("13 nobody still", x::secondsToSpeak, 0);
    }

    private static void promise14Pause() {
        PauseLedger x = new PauseLedger();
        x.pass(120);
        DUES.due("14 since the dinner began", x::pause, 120);
        x.speak(0, 1);
        DUES.due("14 no second has gone by yet", x::pause, 120);
        x.pass(1);
        DUES.due("14 somebody spoke", x::pause, 0);
        x.pass(1);
        DUES.due("14 1 second ago", x::pause, 1);
    }

    private static void promise15SpokenBy() {
        PauseLedger x = new PauseLedger();
        x.speak(0, 5);
        x.pass(3);
        x.speak(3, 60);
        x.pass(70);
        DUES.due("15 interrupted", () -> x.spokenBy(0), 3);
        DUES.due("15 to the end", () -> x.spokenBy(3), 60);
        DUES.due("15 not at all", () -> x.spokenBy(1), 0);
        x.speak(0, 1);
        x.pass(1);
        DUES.due("15 again", () -> x.spokenBy(0), 4);
        DUES.noGuest("15 spokenBy(4)", () -> x.spokenBy(4));
        DUES.noGuest("15 spokenBy(-1)", () -> x.spokenBy(-1));
    }

    private static void promise16InterruptionsBy() {
        PauseLedger x = new PauseLedger();
        x.speak(0, 5);
        x.speak(1, 5);
        x.speak(0, 5);
        x.speak(1, 5);
        x.speak(1, 9);
        DUES.due("16 interruptionsBy(0)", () -> x.interruptionsBy(0), 1);
        DUES.due("16 interruptionsBy(1)", () -> x.interruptionsBy(1), 2);
        DUES.due("16 interruptionsBy(3)", () -> x.interruptionsBy(3), 0);
        DUES.noGuest("16 interruptionsBy(4)", () -> x.interruptionsBy(4));
        DUES.noGuest("16 interruptionsBy(-1)", () -> x.interruptionsBy(-1));
    }

    private static void promise17CoughsOf() {
        PauseLedger x = new PauseLedger();
        x.cough(2, 9);
        x.speak(2, 9);
        x.cough(2, 1);
        x.cough(3, 1);
        DUES.due("17 coughsOf(2)", () -> x.coughsOf(2), 2);
        DUES.due("17 coughsOf(3)", () -> x.coughsOf(3), 1);
        DUES.due("17 coughsOf(0)", () -> x.coughsOf(0), 0);
        DUES.noGuest("17 coughsOf(4)", () -> x.coughsOf(4));
        DUES.noGuest("17 coughsOf(-1)", () -> x.coughsOf(-1));
    }

    private static void promise18UnsaidBy() {
        PauseLedger x = new PauseLedger();
        x.glance(0, 1);
        x.glance(2, 3);
        x.glance(3, 2);
        x.pass(5);
        x.cough(3, 4);
        DUES.due("18 whose glance was caught", () -> x.unsaidBy(0), 1);
        DUES.due("18 who caught it", () -> x.unsaidBy(1), 0);
        DUES.due("18 who met", () -> x.unsaidBy(2), 3);
        DUES.due("18 who met and coughed", () -> x.unsaidBy(3), 7);
        DUES.noGuest("18 unsaidBy(4)", () -> x.unsaidBy(4));
        DUES.noGuest("18 unsaidBy(-1)", () -> x.unsaidBy(-1));
    }

    private static void promise19IsUnderWay() {
        PauseLedger x = Tables.dinnerOf(6);
        x.glance(0, 3);
        DUES.due("19 under way", () -> x.isUnderWay(0, 3), true);
        DUES.due("19 not back", () -> x.isUnderWay(3, 0), false);
        DUES.due("19 the same", () -> x.isUnderWay(0, 0), false);
        x.pass(5);
        DUES.due("19 still", () -> x.isUnderWay(0, 3), true);
        x.pass(1);
        DUES.due("19 over", () -> x.isUnderWay(0, 3), false);
        DUES.noGuest("19 isUnderWay(6, 0)", () -> x.isUnderWay(6, 0));
        DUES.noGuest("19 isUnderWay(0, 6)", () -> x.isUnderWay(0, 6));
        DUES.noGuest("19 isUnderWay(-1, -1)", () -> x.isUnderWay(-1, -1));
    }

    private static void promise20SecondsToGo() {
        PauseLedger x = Tables.dinnerOf(6);
        x.glance(0, 3);
        DUES.due("20 at once", () -> x.secondsToGo(0, 3), 6);
        DUES.due("20 none back", () -> x.secondsToGo(3, 0), 0);
        DUES.due("20 the same", () -> x.secondsToGo(2, 2), 0);
        x.pass(5);
        DUES.due("20 the last second", () -> x.secondsToGo(0, 3), 1);
        x.pass(1);
        DUES.due("20 over", () -> x.secondsToGo(0, 3), 0);
        x.pass(1);
        DUES.due("20 over still", () -> x.secondsToGo(0, 3), 0);
        DUES.noGuest("20 secondsToGo(6, 0)", () -> x.secondsToGo(6, 0));
        DUES.noGuest("20 secondsToGo(0, 6)", () -> x.secondsToGo(0, 6));
        DUES.noGuest("20 secondsToGo(0, -1)", () -> x.secondsToGo(0, -1));
    }

    private static void promise21CaughtBy() {
        PauseLedger x = new PauseLedger();
        x.glance(0, 1);
        x.pass(2);
        x.glance(0, 1);
        x.pass(2);
        DUES.due("21 two of them", () -> x.caughtBy(0, 1), 2);
        DUES.due("21 none back", () -> x.caughtBy(1, 0), 0);
        DUES.due("21 the same", () -> x.caughtBy(1, 1), 0);
        x.glance(0, 1);
        x.glance(1, 0);
        x.pass(2);
        x.glance(0, 1);
        x.speak(1, 9);
        x.pass(2);
        DUES.due("21 neither met nor lost ones", () -> x.caughtBy(0, 1), 2);
        DUES.noGuest("21 caughtBy(4, 0)", () -> x.caughtBy(4, 0));
        DUES.noGuest("21 caughtBy(0, 4)", () -> x.caughtBy(0, 4));
        DUES.noGuest("21 caughtBy(-1, 4)", () -> x.caughtBy(-1, 4));
    }

    private static void promise22UnsaidInPauses() {
        PauseLedger x = new PauseLedger();
        x.pass(4);
        DUES.due("22 before the limit", x::unsaidInPauses, 0);
        x.pass(1);
        DUES.due("22 at the limit", x::unsaidInPauses, 1);
        x.speak(0, 3);
        x.pass(3);
        DUES.due("22 a pause of 0 does not count", x::unsaidInPauses, 1);
        x.pass(4);
        DUES.due("22 the pause begins anew", x::unsaidInPauses, 1);
        x.pass(6);
        DUES.due("22 twice the limit", x::unsaidInPauses, 3);
        x.cough(0, 9);
        DUES.due("22 without those of guests", x::unsaidInPauses, 3);
    }

    private static void promise23AllUnsaid() {
        PauseLedger x = new PauseLedger();
        x.pass(10);
        x.cough(0, 9);
        x.cough(3, 2);
        DUES.due("23 of guests and pauses", x::allUnsaid, 13);
    }

    private static void promise24GlancesUnderWay() {
        PauseLedger x = Tables.dinnerOf(5);
        x.glance(0, 1);
        x.glance(1, 3);
        x.glance(3, 1);
        DUES.due("24 three", x::glancesUnderWay, 3);
        x.pass(2);
        DUES.due("24 two", x::glancesUnderWay, 2);
        x.pass(2);
        DUES.due("24 none", x::glancesUnderWay, 0);
    }

    private static void promise25Meetings() {
        PauseLedger x = Tables.dinnerOf(10);
        x.glance(0, 5);
        x.pass(9);
        x.glance(5, 0);
        x.pass(1);
        DUES.due("25 met in the last second", x::meetings, 1);
        DUES.due("25 the other is over, too", () -> x.isUnderWay(5, 0), false);
        x.glance(0, 5);
        x.pass(10);
        x.glance(5, 0);
        x.pass(10);
        DUES.due("25 too late to meet", x::meetings, 1);
        x.glance(1, 2);
        x.glance(2, 1);
        x.pass(2);
        DUES.due("25 arrived in one second", x::meetings, 2);
    }

    private static void promise26LostGlances() {
        PauseLedger x = new PauseLedger();
        x.glance(0, 2);
        x.glance(1, 2);
        x.glance(3, 1);
        x.speak(2, 60);
        x.pass(2);
        DUES.due("26 lost beside the one who speaks", x::lostGlances, 1);
        x.pass(2);
        DUES.due("26 lost, but the one at another guest", x::lostGlances, 2);
        DUES.due("26 nothing is unsaid by them", () -> x.unsaidBy(0), 0);
        DUES.due("26 the other is caught", () -> x.unsaidBy(3), 1);
    }

    private static void promise27Quietest() {
        PauseLedger x = new PauseLedger();
        DUES.due("27 of all the smallest", x::quietest, 0);
        x.cough(3, 5);
        DUES.due("27 the last", x::quietest, 3);
        x.cough(1, 5);
        DUES.due("27 of several the smallest", x::quietest, 1);
        x.cough(2, 6);
        DUES.due("27 the most", x::quietest, 2);
        x.newDinner(2);
        DUES.due("27 of another dinner", x::quietest, 0);
    }

    private static void promise28Rating() {
        PauseLedger x = Tables.dinnerOf(2);
        DUES.due("28 nothing unsaid", x::rating, 6);
        x.cough(0, 7);
        DUES.due("28 7 of 2, cut", x::rating, 9);
        x.cough(0, 1);
        DUES.due("28 8 of 2", x::rating, 10);
        x.pass(10);
        DUES.due("28 pauses count", x::rating, 9);
        x.cough(0, 9);
        x.cough(0, 8);
        DUES.due("28 27 of 2", x::rating, 1);
        x.cough(0, 1);
        DUES.due("28 28 of 2", x::rating, 0);
        x.cough(0, 9);
        DUES.due("28 at least 0", x::rating, 0);
    }

    private static void promise29AllUnsaidIn() {
        PauseLedger x = new PauseLedger();
        x.glance(0, 1);
        x.glance(2, 3);
        x.glance(3, 2);
        x.speak(1, 3);
        x.cough(0, 3);
        long before = x.digest();
        DUES.badArgument("29 allUnsaidIn(0)", () -> x.allUnsaidIn(0));
        DUES.badArgument("29 allUnsaidIn(121)", () -> x.allUnsaidIn(121));
        DUES.due("29 allUnsaidIn(1)", () -> x.allUnsaidIn(1), 1);
        DUES.due("29 allUnsaidIn(2)", () -> x.allUnsaidIn(2), 7);
        DUES.due("29 allUnsaidIn(8)", () -> x.allUnsaidIn(8), 8);
        DUES.due("29 allUnsaidIn(120)", () -> x.allUnsaidIn(120), 30);
        DUES.due("29 nothing is changed", x::digest, before);
        x.pass(120);
        DUES.due("29 as it came", x::allUnsaid, 30);
        PauseLedger ten = Tables.dinnerOf(10);
        ten.cough(9, 6);
        ten.pass(3);
        DUES.due("29 allUnsaidIn(1), pause 3", () -> ten.allUnsaidIn(1), 6);
        DUES.due("29 allUnsaidIn(2), pause 3", () -> ten.allUnsaidIn(2), 7);
    }

    private static void promise30SecondsUntilPauseCounts() {
        PauseLedger x = new PauseLedger();
        DUES.due("30 at first", x::secondsUntilPauseCounts, 5);
        x.pass(4);
        DUES.due("30 in the next second", x::secondsUntilPauseCounts, 1);
        x.pass(1);
        DUES.due("30 counted right now", x::secondsUntilPauseCounts, 5);
        x.speak(0, 60);
        DUES.due("30 behind a speech", x::secondsUntilPauseCounts, 65);
        x.pass(59);
        DUES.due("30 behind its end", x::secondsUntilPauseCounts, 6);
        x.pass(1);
        DUES.due("30 it is over", x::secondsUntilPauseCounts, 5);
        x.pass(7);
        x.setLimit(30);
        DUES.due("30 limit 30", x::secondsUntilPauseCounts, 23);
        x.setLimit(1);
        DUES.due("30 limit 1", x::secondsUntilPauseCounts, 1);
        x.setLimit(3);
        long before = x.digest();
        DUES.due("30 limit 3, pause 7", x::secondsUntilPauseCounts, 2);
        DUES.due("30 nothing is changed", x::digest, before);
    }

    private static void promise31WouldLeave() {
        PauseLedger x = Tables.dinnerOf(6);
        DUES.noGuest("31 wouldLeave(6, 6)", () -> x.wouldLeave(6, 6));
        DUES.noGuest("31 wouldLeave(0, -1)", () -> x.wouldLeave(0, -1));
        DUES.badArgument("31 wouldLeave(5, 5)", () -> x.wouldLeave(5, 5));
        DUES.due("31 caught", () -> x.wouldLeave(0, 3), 1);
        x.speak(3, 6);
        DUES.due("31 the speech ends in time", () -> x.wouldLeave(0, 3), 1);
        x.speak(3, 7);
        long before = x.digest();
        DUES.due("31 lost", () -> x.wouldLeave(0, 3), 0);
        DUES.due("31 who speaks glances", () -> x.wouldLeave(3, 0), 1);
        DUES.due("31 nothing is changed", x::digest, before);
        x.glance(3, 0);
        DUES.badState("31 wouldLeave(3, 0)", () -> x.wouldLeave(3, 0));
        DUES.due("31 meets, both just sent", () -> x.wouldLeave(0, 3), 3);
        x.pass(5);
        x.speak(3, 60);
        DUES.due("31 meets in the last second", () -> x.wouldLeave(0, 3), 3);
        x.pass(1);
        DUES.due("31 too late", () -> x.wouldLeave(0, 3), 0);
    }

    private static void promise32BestMoment() {
        PauseLedger x = Tables.dinnerOf(10);
        DUES.noGuest("32 bestMoment(10, 10)", () -> x.bestMoment(10, 10));
        DUES.noGuest("32 bestMoment(0, -1)", () -> x.bestMoment(0, -1));
        DUES.badArgument("32 bestMoment(9, 9)", () -> x.bestMoment(9, 9));
        DUES.due("32 now", () -> x.bestMoment(0, 9), 0);
        x.speak(0, 60);
        long before = x.digest();
        DUES.due("32 beside", () -> x.bestMoment(9, 0), 58);
        DUES.due("32 across the table", () -> x.bestMoment(5, 0), 50);
        DUES.due("32 at one who does not speak", () -> x.bestMoment(0, 5), 0);
        DUES.due("32 nothing is changed", x::digest, before);
        x.glance(0, 9);
        DUES.badState("32 bestMoment(0, 9)", () -> x.bestMoment(0, 9));
        DUES.due("32 it would meet", () -> x.bestMoment(9, 0), 0);
        x.pass(2);
        DUES.due("32 it would not meet any more", () -> x.bestMoment(9, 0), 56);
        x.speak(0, 3);
        DUES.due("32 in 1 second", () -> x.bestMoment(9, 0), 1);
        DUES.due("32 in 0 seconds", () -> x.bestMoment(8, 0), 0);
    }

    private static void promise33RatingIn() {
        PauseLedger x = new PauseLedger();
        x.cough(0, 9);
        x.cough(1, 6);
        long before = x.digest();
        DUES.badArgument("33 ratingIn(0)", () -> x.ratingIn(0));
        DUES.badArgument("33 ratingIn(121)", () -> x.ratingIn(121));
        DUES.due("33 ratingIn(1)", () -> x.ratingIn(1), 9);
        DUES.due("33 ratingIn(5)", () -> x.ratingIn(5), 10);
        DUES.due("33 ratingIn(120)", () -> x.ratingIn(120), 5);
        DUES.due("33 nothing is changed", x::digest, before);
        x.setLimit(1);
        DUES.due("33 at least 0", () -> x.ratingIn(120), 0);
        PauseLedger two = Tables.dinnerOf(2);
        two.cough(1, 7);
        two.pass(4);
        DUES.due("33 of two guests", () -> two.ratingIn(1), 10);
    }

    private static void promise34MeanUnsaid() {
        PauseLedger x = Tables.dinnerOf(10);
        DUES.due("34 nothing", x::meanUnsaid, 0.0);
        x.cough(0, 9);
        x.cough(9, 4);
        DUES.due("34 13 of 10", x::meanUnsaid, 13.0 / 10);
        x.pass(5);
        DUES.due("34 without pauses", x::meanUnsaid, 1.3);
        x.newDinner(3);
        x.cough(2, 1);
        DUES.due("34 1 of 3", x::meanUnsaid, 1.0 / 3);
    }

    private static void promise35Digest() {
        PauseLedger x = new PauseLedger();
        x.setLimit(2);
        x.glance(0, 1);
        x.glance(2, 3);
        x.glance(3, 2);
        x.pass(3);
        x.speak(1, 9);
        x.glance(0, 1);
        x.pass(2);
        x.speak(2, 7);
        x.cough(3, 8);
        x.glance(0, 2);
        x.pass(1);
        DUES.due("35 digest", x::digest, digestByItsWords(x));
        PauseLedger fresh = new PauseLedger();
        DUES.due("35 digest of a new one", fresh::digest, digestByItsWords(fresh));
    }

    private static long digestByItsWords(PauseLedger x) {
        long[] first = {x.guests(), x.seconds(), x.limit(), x.speaker(), x.secondsToSpeak(), x.pause(),
            x.unsaidInPauses(), x.glancesUnderWay(), x.meetings(), x.lostGlances(), x.rating()};
        long d = 1973;
        for (long number : first) {
            d = d * 31 + number;
        }
        for (int guest = 0; guest < x.guests(); guest++) {
            d = d * 31 + x.spokenBy(guest);
            d = d * 31 + x.interruptionsBy(guest);
            d = d * 31 + x.coughsOf(guest);
            d = d * 31 + x.unsaidBy(guest);
            for (int to = 0; to < x.guests(); to++) {
                d = d * 31 + x.secondsToGo(guest, to);
                d = d * 31 + x.caughtBy(guest, to);
            }
        }
        return d;
    }

    private static void thrownCallsChangeNothing() {
        PauseLedger x = Tables.dinnerOf(3);
        x.glance(0, 1);
        x.speak(2, 9);
        x.cough(1, 8);
        long before = x.digest();
        DUES.badArgument("thrown newDinner", () -> x.newDinner(11));
        DUES.badArgument("thrown setLimit", () -> x.setLimit(31));
        DUES.badArgument("thrown speak", () -> x.speak(1, 61));
        DUES.noGuest("thrown speak, no guest", () -> x.speak(3, 1));
        DUES.badArgument("thrown cough", () -> x.cough(1, 10));
        DUES.noGuest("thrown cough, no guest", () -> x.cough(3, 1));
        DUES.badState("thrown glance", () -> x.glance(0, 1));
        DUES.badArgument("thrown glance, the same", () -> x.glance(0, 0));
        DUES.noGuest("thrown glance, no guest", () -> x.glance(0, 3));
        DUES.badArgument("thrown pass", () -> x.pass(121));
        DUES.due("thrown calls change nothing", x::digest, before);
        x.pass(2);
        DUES.due("thrown glance is sent once", () -> x.caughtBy(0, 1), 1);
    }
}
