/** Each sentence of the document's "Terms" that names a border: at the border, and one step to each side of it. */
final class TermsTest {
    private static final Dues DUES = new Dues();

    public static void main(String[] args) {
        tableHasTwoToTenGuests();
        guestsAreNumberedFromZero();
        lastOneSitsBesideFirstOne();
        guestsAreApartTheShorterWayRound();
        atMostOneGuestSpeaks();
        whoBeginsInterruptsWhoSpeaks();
        interruptedOneDoesNotSpeakAnyMore();
        coughHasWeightOneToNine();
        coughIsHalvedWhileAnotherOneSpeaks();
        glanceNeedsTwoSecondsForEachSeat();
        onlyOneGlanceAtATime();
        nothingIsUnsaidAtFirst();
        pauseIsSinceSomebodySpokeOrTheDinnerBegan();
        pauseCountsIfTheLimitDividesIt();
        pauseIsLookedAtWithTheLimitOfThatSecond();
        whoSpeaksHasOneSecondLess();
        speechEndsNoPauseByItself();
        glanceHasOneSecondLessToGo();
        glanceMeetsOneThatIsStillUnderWay();
        glanceMeetsOneThatArrivesNow();
        metGlancesAreBothOver();
        glanceIsLostIfTheOtherOneSpeaksBehindStepOne();
        glanceIsCaughtIfTheOtherOneDoesNotSpeak();
        glancesOfOneSecondAllArrive();
        meetingsComeBeforeSpeaking();
        secondIsOneGreater();
        ratingIsTenLessHowFarFromFour();
        ratingIsAtLeastZero();
        DUES.end();
    }

    // "It has 2 to 10 guests (4, at first), numbered from 0 around it, so the last one sits beside the first one."

    private static void tableHasTwoToTenGuests() {
        PauseLedger x = new PauseLedger();
        DUES.due("4 guests at first", x::guests, 4);
        DUES.badArgument("1 guest", () -> x.newDinner(1));
        DUES.due("still 4 guests", x::guests, 4);
        for (int guests : new int[] {2, 3, 9, 10}) {
            DUES.due("dinner of " + guests, () -> x.newDinner(guests), 6);
            DUES.due("guests of " + guests, x::guests, guests);
        }
        DUES.badArgument("11 guests", () -> x.newDinner(11));
        DUES.due("still 10 guests", x::guests, 10);
    }

    private static void guestsAreNumberedFromZero() {
        for (int guests = 2; guests <= 10; guests++) {
            PauseLedger x = Tables.dinnerOf(guests);
            int beyond = guests;
            DUES.noGuest("guest -1 of " + guests, () -> x.unsaidBy(-1));
            for (int guest = 0; guest < guests; guest++) {
                int each = guest;
                DUES.due("guest " + guest + " of " + guests, () -> x.unsaidBy(each), 0);
            }
            DUES.noGuest("guest " + guests + " of " + guests, () -> x.unsaidBy(beyond));
            DUES.noGuest("guest " + (guests + 1) + " of " + guests, () -> x.unsaidBy(beyond + 1));
        }
    }

    private static void lastOneSitsBesideFirstOne() {
        for (int guests = 2; guests <= 10; guests++) {
            PauseLedger x = Tables.dinnerOf(guests);
            int last = guests - 1;
            DUES.due("last and first of " + guests, () -> x.seatsApart(last, 0), 1);
            DUES.due("first and last of " + guests, () -> x.seatsApart(0, last), 1);
            DUES.due("glance of the last at the first of " + guests, () -> x.glance(last, 0), 2);
        }
        PauseLedger ten = Tables.dinnerOf(10);
        DUES.due("the last but one", () -> ten.seatsApart(8, 0), 2);
        DUES.due("the last and the second", () -> ten.seatsApart(9, 1), 2);
    }

    // "Two guests are as far apart as the seats from one to the other, the shorter way round."

    private static void guestsAreApartTheShorterWayRound() {
        String[] apartFromFirst = {"01", "011", "0121", "01221", "012321", "0123321", "01234321", "012344321", "0123454321"};
        for (String row : apartFromFirst) {
            int guests = row.length();
            PauseLedger x = Tables.dinnerOf(guests);
            for (int a = 0; a < guests; a++) {
                for (int steps = 0; steps < guests; steps++) {
                    int from = a;
                    int to = (a + steps) % guests;
                    DUES.due("seats of " + guests + ", " + from + " to " + to, () -> x.seatsApart(from, to),
                        row.charAt(steps) - '0');
                }
            }
        }
    }

    // "At most one guest speaks, for so many seconds more."

    private static void atMostOneGuestSpeaks() {
        PauseLedger x = new PauseLedger();
        DUES.due("nobody at first", x::speaker, -1);
        DUES.due("no seconds at first", x::secondsToSpeak, 0);
        x.speak(0, 5);
        x.speak(3, 2);
        DUES.due("the latter one", x::speaker, 3);
        DUES.due("for its own seconds", x::secondsToSpeak, 2);
        x.pass(1);
        DUES.due("1 second more", x::secondsToSpeak, 1);
        x.pass(1);
        DUES.due("no one any more", x::speaker, -1);
        DUES.due("only one spoke, 0", () -> x.spokenBy(0), 0);
        DUES.due("only one spoke, 3", () -> x.spokenBy(3), 2);
    }

    // "Who begins while another one speaks interrupts this one, who does not speak any more."

    private static void whoBeginsInterruptsWhoSpeaks() {
        for (int gone = 0; gone <= 3; gone++) {
            PauseLedger x = new PauseLedger();
            x.speak(0, 2);
            if (gone > 0) {
                x.pass(gone);
            }
            boolean speaksStill = gone < 2;
            DUES.due("begins behind " + gone + " of 2 seconds", () -> x.speak(1, 1), speaksStill ? 0 : -1);
            DUES.due("interruptions, behind " + gone, () -> x.interruptionsBy(1), speaksStill ? 1 : 0);
            DUES.due("not of the one who spoke, behind " + gone, () -> x.interruptionsBy(0), 0);
        }
        PauseLedger x = new PauseLedger();
        x.speak(2, 60);
        DUES.due("the same one interrupts nobody", () -> x.speak(2, 1), -1);
        DUES.due("nor is it counted", () -> x.interruptionsBy(2), 0);
    }

    private static void interruptedOneDoesNotSpeakAnyMore() {
        PauseLedger x = new PauseLedger();
        x.speak(0, 60);
        x.pass(1);
        x.speak(1, 1);
        x.pass(1);
        DUES.due("not even behind the other one", x::speaker, -1);
        x.pass(10);
        DUES.due("the interrupted one", () -> x.spokenBy(0), 1);
        DUES.due("the other one", () -> x.spokenBy(1), 1);
        DUES.due("it is a pause", x::pause, 10);
    }

    // "A cough has a weight, 1 to 9: this guest leaves so much unsaid, if nobody speaks; weight / 2, if another one
    // speaks; nothing, if it is this one who speaks."

    private static void coughHasWeightOneToNine() {
        PauseLedger x = new PauseLedger();
        DUES.badArgument("weight 0", () -> x.cough(0, 0));
        DUES.badArgument("weight 10", () -> x.cough(0, 10));
        DUES.due("refused coughs do not count", () -> x.coughsOf(0), 0);
        int sum = 0;
        for (int weight = 1; weight <= 9; weight++) {
            int each = weight;
            sum += weight;
            DUES.due("weight " + weight + ", nobody speaks", () -> x.cough(0, each), weight);
            DUES.due("unsaid by it", () -> x.unsaidBy(0), sum);
        }
        DUES.due("each of them counts", () -> x.coughsOf(0), 9);
    }

    private static void coughIsHalvedWhileAnotherOneSpeaks() {
        int[] halves = {0, 0, 1, 1, 2, 2, 3, 3, 4, 4};
        PauseLedger x = new PauseLedger();
        x.speak(3, 1);
        for (int weight = 1; weight <= 9; weight++) {
            int each = weight;
            DUES.due("weight " + weight + ", another one speaks", () -> x.cough(0, each), halves[weight]);
            DUES.due("weight " + weight + ", this one speaks", () -> x.cough(3, each), 0);
        }
        DUES.due("unsaid by the other one", () -> x.unsaidBy(0), 20);
        DUES.due("unsaid by this one", () -> x.unsaidBy(3), 0);
        x.speak(0, 1);
        DUES.due("the interrupted one does not speak", () -> x.cough(3, 9), 4);
        x.pass(1);
        DUES.due("nobody speaks any more, 3", () -> x.cough(3, 9), 9);
        DUES.due("nobody speaks any more, 0", () -> x.cough(0, 9), 9);
    }

    // "One from a guest to another one is under way for 2 seconds for each seat that they are apart."

    private static void glanceNeedsTwoSecondsForEachSeat() {
        for (int guests = 2; guests <= 10; guests++) {
            for (int to = 1; to < guests; to++) {
                PauseLedger x = Tables.dinnerOf(guests);
                String which = "at " + to + " of " + guests;
                int at = to;
                int way = 2 * x.seatsApart(0, to);
                DUES.due("glance " + which, () -> x.glance(0, at), way);
                x.pass(way - 1);
                DUES.due("not there yet, " + which, () -> x.isUnderWay(0, at), true);
                DUES.due("not caught yet, " + which, () -> x.caughtBy(0, at), 0);
                x.pass(1);
                DUES.due("over, " + which, () -> x.isUnderWay(0, at), false);
                DUES.due("caught, " + which, () -> x.caughtBy(0, at), 1);
                x.pass(1);
                DUES.due("caught once, " + which, () -> x.caughtBy(0, at), 1);
            }
        }
    }

    // "Only one at a time is under way from the one to the other."

    private static void onlyOneGlanceAtATime() {
        for (int gone = 0; gone <= 5; gone++) {
            PauseLedger x = new PauseLedger();
            x.glance(0, 2);
            if (gone > 0) {
                x.pass(gone);
            }
            if (gone < 4) {
                DUES.badState("a second one behind " + gone, () -> x.glance(0, 2));
                DUES.due("the first one goes on, behind " + gone, () -> x.secondsToGo(0, 2), 4 - gone);
            } else {
                DUES.due("a second one behind " + gone, () -> x.glance(0, 2), 4);
            }
            DUES.due("one way only, behind " + gone, x::glancesUnderWay, 1);
            DUES.due("one back is another one, behind " + gone, () -> x.glance(2, 0), 4);
            DUES.due("one beside is another one, behind " + gone, () -> x.glance(0, 1), 2);
        }
    }

    // "Each guest has left so much unsaid (0, at first); and so have pauses."

    private static void nothingIsUnsaidAtFirst() {
        for (int guests = 2; guests <= 10; guests++) {
            PauseLedger x = Tables.dinnerOf(guests);
            for (int guest = 0; guest < guests; guest++) {
                int each = guest;
                DUES.due("guest " + guest + " of " + guests, () -> x.unsaidBy(each), 0);
            }
            DUES.due("pauses of " + guests, x::unsaidInPauses, 0);
            DUES.due("in all of " + guests, x::allUnsaid, 0);
        }
    }

    // "The pause is how many seconds ago somebody spoke for the latest time, or the dinner began."

    private static void pauseIsSinceSomebodySpokeOrTheDinnerBegan() {
        PauseLedger x = new PauseLedger();
        DUES.due("the dinner just began", x::pause, 0);
        x.pass(1);
        DUES.due("it began 1 second ago", x::pause, 1);
        x.pass(1);
        DUES.due("it began 2 seconds ago", x::pause, 2);
        x.speak(0, 2);
        DUES.due("no second of this speech has gone by", x::pause, 2);
        x.speak(1, 2);
        DUES.due("nor of the one that interrupts it", x::pause, 2);
        x.pass(1);
        DUES.due("somebody speaks", x::pause, 0);
        x.pass(1);
        DUES.due("somebody spoke in this second", x::pause, 0);
        x.pass(1);
        DUES.due("somebody spoke 1 second ago", x::pause, 1);
        x.newDinner(2);
        DUES.due("another dinner just began", x::pause, 0);
    }

    // "If nobody speaks, the pause is 1 longer, and if it can be divided by the limit, 1 to 30 (5, at first), pauses
    // have 1 more unsaid."

    private static void pauseCountsIfTheLimitDividesIt() {
        PauseLedger first = new PauseLedger();
        DUES.due("4 seconds, at first", () -> first.pass(4), 0);
        DUES.due("5 seconds, at first", () -> first.pass(1), 1);
        DUES.due("6 seconds, at first", () -> first.pass(1), 0);
        for (int limit = 1; limit <= 30; limit++) {
            PauseLedger x = new PauseLedger();
            x.setLimit(limit);
            for (int length = 1; length <= 3 * limit + 1; length++) {
                int want = length / limit * limit == length ? 1 : 0;
                DUES.due("limit " + limit + ", pause " + length, () -> x.pass(1), want);
            }
            DUES.due("limit " + limit + ", thrice", x::unsaidInPauses, limit == 1 ? 4 : 3);
        }
    }

    private static void pauseIsLookedAtWithTheLimitOfThatSecond() {
        PauseLedger x = new PauseLedger();
        x.setLimit(30);
        x.pass(6);
        x.setLimit(3);
        DUES.due("another limit counts nothing by itself", x::unsaidInPauses, 0);
        DUES.due("pause 8, limit 3", () -> x.pass(2), 0);
        DUES.due("pause 9, limit 3", () -> x.pass(1), 1);
        x.setLimit(30);
        DUES.due("pause 29, limit 30", () -> x.pass(20), 0);
        DUES.due("pause 30, limit 30", () -> x.pass(1), 1);
        x.setLimit(29);
        DUES.due("pause 57, limit 29", () -> x.pass(27), 0);
        DUES.due("pause 58, limit 29", () -> x.pass(1), 1);
    }

    // "Otherwise the pause is 0, the one who speaks has spoken for 1 second more, and has 1 second less to speak; with
    // none left, this one does not speak any more."

    private static void whoSpeaksHasOneSecondLess() {
        for (int seconds : new int[] {1, 2, 59, 60}) {
            PauseLedger x = new PauseLedger();
            x.speak(2, seconds);
            for (int gone = 1; gone <= seconds; gone++) {
                String which = gone + " of " + seconds;
                x.pass(1);
                DUES.due("to speak behind " + which, x::secondsToSpeak, seconds - gone);
                DUES.due("spoken behind " + which, () -> x.spokenBy(2), gone);
                DUES.due("speaker behind " + which, x::speaker, gone < seconds ? 2 : -1);
            }
            x.pass(1);
            DUES.due("to speak behind all " + seconds, x::secondsToSpeak, 0);
            DUES.due("spoken behind all " + seconds, () -> x.spokenBy(2), seconds);
            DUES.due("speaker behind all " + seconds, x::speaker, -1);
        }
    }

    private static void speechEndsNoPauseByItself() {
        PauseLedger x = new PauseLedger();
        x.setLimit(1);
        x.speak(0, 2);
        DUES.due("a pause of 0 does not count", () -> x.pass(1), 0);
        DUES.due("nor in the second in which the speech ends", () -> x.pass(1), 0);
        DUES.due("but in the next one", () -> x.pass(1), 1);
        x.setLimit(2);
        x.speak(0, 1);
        x.pass(1);
        DUES.due("the pause of before is forgotten", () -> x.pass(1), 0);
        DUES.due("2 seconds behind the speech", () -> x.pass(1), 1);
    }

    // "Each glance that is under way has 1 second less to go. Those with none left arrive, in the order in which they
    // were sent"

    private static void glanceHasOneSecondLessToGo() {
        PauseLedger x = Tables.dinnerOf(10);
        x.glance(0, 5);
        x.glance(3, 4);
        for (int gone = 1; gone <= 11; gone++) {
            x.pass(1);
            DUES.due("far glance behind " + gone, () -> x.secondsToGo(0, 5), Math.max(0, 10 - gone));
            DUES.due("near glance behind " + gone, () -> x.secondsToGo(3, 4), Math.max(0, 2 - gone));
            DUES.due("under way behind " + gone, x::glancesUnderWay, gone < 2 ? 2 : gone < 10 ? 1 : 0);
        }
    }

    // "if one from the guest to whom it goes to the one from whom it comes is still under way (or arrives now, and has
    // not been looked at yet), they meet: both guests leave 3 more unsaid, and both glances are over."

    private static void glanceMeetsOneThatIsStillUnderWay() {
        for (int seats = 1; seats <= 5; seats++) {
            int way = 2 * seats;
            for (int ahead = 0; ahead <= way + 1; ahead++) {
                PauseLedger x = Tables.dinnerOf(10);
                x.setLimit(30);
                int to = seats;
                x.glance(0, to);
                if (ahead > 0) {
                    x.pass(ahead);
                }
                x.glance(to, 0);
                x.pass(way);
                boolean meet = ahead < way;
                String which = seats + " seats, " + ahead + " seconds ahead";
                DUES.due("meetings, " + which, x::meetings, meet ? 1 : 0);
                DUES.due("unsaid by the one, " + which, () -> x.unsaidBy(0), meet ? 3 : 1);
                DUES.due("unsaid by the other, " + which, () -> x.unsaidBy(to), meet ? 3 : 1);
                DUES.due("caught, " + which, () -> x.caughtBy(0, to) + x.caughtBy(to, 0), meet ? 0 : 2);
                DUES.due("none under way, " + which, x::glancesUnderWay, 0);
            }
        }
    }

    private static void glanceMeetsOneThatArrivesNow() {
        PauseLedger x = new PauseLedger();
        x.glance(0, 1);
        x.glance(2, 3);
        x.glance(1, 0);
        x.glance(3, 2);
        DUES.due("a second before", () -> x.pass(1), 0);
        DUES.due("both pairs meet", () -> x.pass(1), 12);
        DUES.due("2 meetings", x::meetings, 2);
        DUES.due("a second behind", () -> x.pass(1), 0);
        PauseLedger round = Tables.dinnerOf(3);
        round.glance(0, 1);
        round.glance(1, 2);
        round.glance(2, 0);
        DUES.due("round the table none meet", () -> round.pass(2), 3);
        DUES.due("no meetings", round::meetings, 0);
    }

    private static void metGlancesAreBothOver() {
        PauseLedger x = Tables.dinnerOf(10);
        x.setLimit(30);
        x.glance(0, 5);
        x.pass(1);
        x.glance(5, 0);
        x.pass(9);
        DUES.due("they met", x::meetings, 1);
        DUES.due("the one is over", () -> x.isUnderWay(0, 5), false);
        DUES.due("the other had 1 second left", () -> x.isUnderWay(5, 0), false);
        DUES.due("none to go", () -> x.secondsToGo(5, 0), 0);
        DUES.due("another one may be sent", () -> x.glance(5, 0), 10);
        DUES.due("it takes its own time", () -> x.pass(9), 0);
        DUES.due("and is caught", () -> x.pass(1), 1);
        DUES.due("as it met none", () -> x.caughtBy(5, 0), 1);
        DUES.due("no second meeting", x::meetings, 1);
    }

    // "Otherwise it is lost, if the guest to whom it goes speaks (behind step 1); if not, it is caught, and the guest
    // from whom it comes leaves 1 more unsaid. It is over then."

    private static void glanceIsLostIfTheOtherOneSpeaksBehindStepOne() {
        for (int seats = 1; seats <= 5; seats++) {
            int way = 2 * seats;
            for (int speech = way - 1; speech <= way + 1; speech++) {
                PauseLedger x = Tables.dinnerOf(10);
                x.setLimit(30);
                int to = 10 - seats;
                x.glance(0, to);
                x.speak(to, speech);
                x.pass(way);
                boolean lost = speech > way;
                String which = way + " seconds under way, " + speech + " of speech";
                DUES.due("lost, " + which, x::lostGlances, lost ? 1 : 0);
                DUES.due("caught, " + which, () -> x.caughtBy(0, to), lost ? 0 : 1);
                DUES.due("unsaid, " + which, x::allUnsaid, lost ? 0 : 1);
                DUES.due("over, " + which, () -> x.isUnderWay(0, to), false);
            }
        }
        PauseLedger late = new PauseLedger();
        late.glance(0, 1);
        late.pass(1);
        late.speak(1, 2);
        late.pass(1);
        DUES.due("who begins a second before loses it", late::lostGlances, 1);
    }

    private static void glanceIsCaughtIfTheOtherOneDoesNotSpeak() {
        PauseLedger x = new PauseLedger();
        x.glance(0, 1);
        x.pass(2);
        x.speak(1, 9);
        DUES.due("who begins behind it has caught it", () -> x.caughtBy(0, 1), 1);
        x.glance(0, 1);
        x.speak(2, 9);
        x.pass(2);
        DUES.due("the interrupted one catches it", () -> x.caughtBy(0, 1), 2);
        x.glance(2, 0);
        x.pass(4);
        DUES.due("the one who glances may speak", () -> x.caughtBy(2, 0), 1);
        DUES.due("1 more unsaid by the one from whom it comes, 0", () -> x.unsaidBy(0), 2);
        DUES.due("1 more unsaid by the one from whom it comes, 2", () -> x.unsaidBy(2), 1);
        DUES.due("nothing by the other one", () -> x.unsaidBy(1), 0);
        DUES.due("none is lost", x::lostGlances, 0);
    }

    private static void glancesOfOneSecondAllArrive() {
        PauseLedger x = Tables.dinnerOf(5);
        x.glance(1, 3);
        x.pass(2);
        x.glance(2, 3);
        x.glance(4, 3);
        x.glance(2, 1);
        x.speak(3, 3);
        DUES.due("a second before", () -> x.pass(1), 0);
        DUES.due("one is caught", () -> x.pass(1), 1);
        DUES.due("three are lost", x::lostGlances, 3);
        DUES.due("none under way", x::glancesUnderWay, 0);
        DUES.due("caught by the one who is silent", () -> x.caughtBy(2, 1), 1);
    }

    private static void meetingsComeBeforeSpeaking() {
        PauseLedger x = new PauseLedger();
        x.speak(1, 60);
        x.glance(0, 1);
        x.pass(1);
        x.glance(1, 0);
        DUES.due("they meet while one speaks", () -> x.pass(1), 6);
        DUES.due("none is lost", x::lostGlances, 0);
        x.glance(0, 1);
        x.pass(2);
        x.glance(1, 0);
        DUES.due("the one that came back too late is caught", () -> x.pass(2), 1);
        DUES.due("and the first one lost", x::lostGlances, 1);
    }

    // "The second is 1 greater."

    private static void secondIsOneGreater() {
        PauseLedger x = new PauseLedger();
        DUES.due("from 0", x::seconds, 0);
        x.pass(1);
        DUES.due("1 greater", x::seconds, 1);
        x.speak(0, 1);
        x.glance(1, 2);
        DUES.due("calls take no time", x::seconds, 1);
        x.pass(1);
        DUES.due("1 greater while one speaks", x::seconds, 2);
        x.pass(120);
        DUES.due("120 greater", x::seconds, 122);
    }

    // "with all that is unsaid, of guests and pauses, added as u, and g guests: 10, less how far u / g is from 4, at
    // least 0."

    private static void ratingIsTenLessHowFarFromFour() {
        int[] byShare = {6, 7, 8, 9, 10, 9, 8, 7, 6, 5, 4, 3, 2, 1, 0, 0, 0};
        for (int guests = 2; guests <= 10; guests++) {
            for (int share = 0; share < byShare.length; share++) {
                PauseLedger x = Tables.dinnerOf(guests);
                String which = share + " of " + guests;
                Tables.leaveUnsaid(x, guests - 1, guests * share);
                DUES.due("rating, " + which, x::rating, byShare[share]);
                Tables.leaveUnsaid(x, 0, guests - 1);
                DUES.due("rating, nearly 1 more than " + which, x::rating, byShare[share]);
                x.cough(0, 1);
                DUES.due("rating, 1 more than " + which, x::rating, byShare[Math.min(share + 1, 16)]);
            }
        }
        PauseLedger pauses = Tables.dinnerOf(2);
        pauses.setLimit(1);
        pauses.pass(7);
        DUES.due("7 of pauses", pauses::rating, 9);
        pauses.pass(1);
        DUES.due("8 of pauses", pauses::rating, 10);
        pauses.cough(1, 2);
        DUES.due("8 of pauses and 2 of a guest", pauses::rating, 9);
    }

    private static void ratingIsAtLeastZero() {
        PauseLedger x = Tables.dinnerOf(2);
        x.setLimit(1);
        x.pass(27);
        DUES.due("27 of 2", x::rating, 1);
        x.pass(1);
        DUES.due("28 of 2", x::rating, 0);
        x.pass(1);
        DUES.due("29 of 2", x::rating, 0);
        x.pass(1);
        DUES.due("30 of 2", x::rating, 0);
        x.pass(120);
        DUES.due("150 of 2", x::rating, 0);
    }
}
