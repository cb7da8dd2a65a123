/** Dinners for the tests, and all that can be asked of one. */
final class Tables {
    private Tables() {
    }

    static PauseLedger dinnerOf(int guests) {
        PauseLedger x = new PauseLedger();
        x.newDinner(guests);
        return x;
    }

    /** Needs at most 360 calls, so that it can be asked once of an object. */
    static String allAnswersOf(PauseLedger x) {
        StringBuilder all = new StringBuilder();
        add(all, "table", x.guests(), x.seconds(), x.limit(), x.speaker(), x.secondsToSpeak(), x.pause());
        add(all, "counted", x.unsaidInPauses(), x.allUnsaid(), x.glancesUnderWay(), x.meetings(), x.lostGlances(),
            x.quietest(), x.rating());
        add(all, "would be", x.allUnsaidIn(1), x.allUnsaidIn(120), x.secondsUntilPauseCounts(), x.ratingIn(120));
        add(all, "mean and digest", x.meanUnsaid(), x.digest());
        int guests = x.guests();
        for (int guest = 0; guest < guests; guest++) {
            add(all, "guest " + guest, x.spokenBy(guest), x.interruptionsBy(guest), x.coughsOf(guest),
                x.unsaidBy(guest));
            for (int to = 0; to < guests; to++) {
                add(all, "to " + to, x.isUnderWay(guest, to), x.secondsToGo(guest, to), x.caughtBy(guest, to));
            }
        }
        return all.toString();
    }

    private static void add(StringBuilder all, String name, Object... answers) {
        all.append(name).append(':');
        for (Object answer : answers) {
            all.append(' ').append(answer);
        }
        all.append("; ");
    }

    /** Lets many seconds go by, as one call lets at most 120. */
    static void passAll(PauseLedger x, int seconds) {
        int left = seconds;
        while (left > 0) {
            int now = Math.min(left, 120);
            x.pass(now);
            left -= now;
        }
    }

    /** Lets a guest leave so much unsaid by coughs, while nobody speaks. */
    static void leaveUnsaid(PauseLedger x, int guest, int much) {
        int left = much;
        while (left > 0) {
            int now = Math.min(left, 9);
            x.cough(guest, now);
            left -= now;
        }
    }
}
