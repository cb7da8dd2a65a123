import java.util.Arrays;

/** A machine that counts what is left unsaid at dinners. */
public final class PauseLedger {
    private static final int NOBODY = -1;

    private static final int FEWEST_GUESTS = 2;
    private static final int MOST_GUESTS = 10;
    private static final int FIRST_GUESTS = 4;
    private static final int PAIRS = MOST_GUESTS * MOST_GUESTS;

    private static final int LONGEST_LIMIT = 30;
    private static final int FIRST_LIMIT = 5;
    private static final int LONGEST_SPEECH = 60;
    private static final int HEAVIEST_COUGH = 9;
    private static final int LONGEST_PASS = 120;

    private static final int SECONDS_PER_SEAT = 2;
    private static final int UNSAID_BY_MEETING = 3;
    private static final int UNSAID_BY_CATCH = 1;

    private static final int BEST_RATING = 10;
    private static final int BEST_SHARE = 4;

    private static final int IS_LOST = 0;
    private static final int IS_CAUGHT = 1;
    private static final int MEETS = 3;
    private static final int LATEST_MOMENT = 60;
    private static final int NO_MOMENT = -1;

    private static final long DIGEST_START = 1973L;
    private static final long DIGEST_FACTOR = 31L;

    private final Dinner dinner;
    /** What would be is tried here, so that no call has to make another dinner. */
    private final Dinner trial;

    public PauseLedger() {
        dinner = new Dinner();
        trial = new Dinner();
    }

    // ---- dinners

    public int newDinner(int guests) throws IllegalArgumentException {
        requireWithin(guests, FEWEST_GUESTS, MOST_GUESTS);
        int ratingBefore = dinner.rate();
        dinner.begin(guests);
        return ratingBefore;
    }

    public int setLimit(int seconds) throws IllegalArgumentException {
        requireWithin(seconds, 1, LONGEST_LIMIT);
        int limitBefore = dinner.limit;
        dinner.limit = seconds;
        return limitBefore;
    }

    public int speak(int guest, int seconds) throws IndexOutOfBoundsException, IllegalArgumentException {
        requireGuest(guest);
        requireWithin(seconds, 1, LONGEST_SPEECH);
        return dinner.letSpeak(guest, seconds);
    }

    public int cough(int guest, int weight) throws IndexOutOfBoundsException, IllegalArgumentException {
        requireGuest(guest);
        requireWithin(weight, 1, HEAVIEST_COUGH);
        return dinner.letCough(guest, weight);
    }

    public int glance(int from, int to)
            throws IndexOutOfBoundsException, IllegalArgumentException, IllegalStateException {
        requireFreeWay(from, to);
        return dinner.send(from, to);
    }

    public int pass(int seconds) throws IllegalArgumentException {
        requireWithin(seconds, 1, LONGEST_PASS);
        int unsaidBefore = dinner.sumUnsaid();
        dinner.goBy(seconds);
        return dinner.sumUnsaid() - unsaidBefore;
    }

    // ---- the table

    public int guests() {
        return dinner.guests;
    }

    public int seconds() {
        return dinner.seconds;
    }

    public int limit() {
        return dinner.limit;
    }

    public int seatsApart(int a, int b) throws IndexOutOfBoundsException {
        requireGuest(a);
        requireGuest(b);
        return dinner.seatsBetween(a, b);
    }

    public int speaker() {
        return dinner.speaker;
    }

    public int secondsToSpeak() {
        return dinner.toSpeak;
    }

    public int pause() {
        return dinner.pause;
    }

    // ---- guests

    public int spokenBy(int guest) throws IndexOutOfBoundsException {
        requireGuest(guest);
        return dinner.spoken[guest];
    }

    public int interruptionsBy(int guest) throws IndexOutOfBoundsException {
        requireGuest(guest);
        return dinner.interruptions[guest];
    }

    public int coughsOf(int guest) throws IndexOutOfBoundsException {
        requireGuest(guest);
        return dinner.coughs[guest];
    }

    public int unsaidBy(int guest) throws IndexOutOfBoundsException {
        requireGuest(guest);
        return dinner.unsaid[guest];
    }

    public boolean isUnderWay(int from, int to) throws IndexOutOfBoundsException {
        requireGuest(from);
        requireGuest(to);
        return dinner.isOnItsWay(pairOf(from, to));
    }

    public int secondsToGo(int from, int to) throws IndexOutOfBoundsException {
        requireGuest(from);
        requireGuest(to);
        return dinner.timeToGo(pairOf(from, to));
    }

    public int caughtBy(int from, int to) throws IndexOutOfBoundsException {
        requireGuest(from);
        requireGuest(to);
        return dinner.caught[pairOf(from, to)];
    }

    // ---- what is counted

    public int unsaidInPauses() {
        return dinner.unsaidInPauses;
    }

    public int allUnsaid() {
        return dinner.sumUnsaid();
    }

    public int glancesUnderWay() {
        return dinner.sent;
    }

    public int meetings() {
        return dinner.meetings;
    }

    public int lostGlances() {
        return dinner.lost;
    }

    public int quietest() {
        int most = 0;
        for (int guest = 1; guest < dinner.guests; guest++) {
            if (dinner.unsaid[guest] > dinner.unsaid[most]) {
                most = guest;
            }
        }
        return most;
    }

    public int rating() {
        return dinner.rate();
    }

    // ---- what would be

    public int allUnsaidIn(int seconds) throws IllegalArgumentException {
        requireWithin(seconds, 1, LONGEST_PASS);
        tryOut(seconds);
        return trial.sumUnsaid();
    }

    public int secondsUntilPauseCounts() {
        return dinner.untilPauseCounts();
    }

    public int wouldLeave(int from, int to)
            throws IndexOutOfBoundsException, IllegalArgumentException, IllegalStateException {
        requireFreeWay(from, to);
        return dinner.fateOf(from, to, 0);
    }

    public int bestMoment(int from, int to)
            throws IndexOutOfBoundsException, IllegalArgumentException, IllegalStateException {
        requireFreeWay(from, to);
        for (int moment = 0; moment <= LATEST_MOMENT; moment++) {
            if (dinner.fateOf(from, to, moment) != IS_LOST) {
                return moment;
            }
        }
        return NO_MOMENT;
    }

    public int ratingIn(int seconds) throws IllegalArgumentException {
        requireWithin(seconds, 1, LONGEST_PASS);
        tryOut(seconds);
        return trial.rate();
    }

    public double meanUnsaid() {
        return dinner.guests > 0 ? (double) dinner.sumUnsaidByGuests() / dinner.guests : 0.0;
    }

    public long digest() {
        long d = digestOfTable();
        for (int guest = 0; guest < dinner.guests; guest++) {
            d = withGuest(d, guest);
        }
        return d;
    }

    private long digestOfTable() {
        long d = DIGEST_START;
        d = followedBy(d, dinner.guests);
        d = followedBy(d, dinner.seconds);
        d = followedBy(d, dinner.limit);
        d = followedBy(d, dinner.speaker);
        d = followedBy(d, dinner.toSpeak);
        d = followedBy(d, dinner.pause);
        d = followedBy(d, dinner.unsaidInPauses);
        d = followedBy(d, dinner.sent);
        d = followedBy(d, dinner.meetings);
        d = followedBy(d, dinner.lost);
        return followedBy(d, dinner.rate());
    }

    private long withGuest(long before, int guest) {
        long d = before;
        d = followedBy(d, dinner.spoken[guest]);
        d = followedBy(d, dinner.interruptions[guest]);
        d = followedBy(d, dinner.coughs[guest]);
        d = followedBy(d, dinner.unsaid[guest]);
        for (int to = 0; to < dinner.guests; to++) {
            int pair = pairOf(guest, to);
            d = followedBy(d, dinner.timeToGo(pair));
            d = followedBy(d, dinner.caught[pair]);
        }
        return d;
    }

    private static long followedBy(long d, int x) {
        return d * DIGEST_FACTOR + x;
    }

    private void tryOut(int seconds) {
        trial.copyOf(dinner);
        trial.goBy(seconds);
    }

    private void requireGuest(int guest) {
        if (guest < 0 || guest >= dinner.guests) {
            throw new IndexOutOfBoundsException("there is no such guest");
        }
    }

    private static void requireWithin(int number, int least, int most) {
        if (number < least || number > most) {
            throw new IllegalArgumentException("the number is too small or too great");
        }
    }

    private void requireFreeWay(int from, int to) {
        requireGuest(from);
        requireGuest(to);
        if (from == to) {
            throw new IllegalArgumentException("both guests are the same");
        }
        if (dinner.isOnItsWay(pairOf(from, to))) {
            throw new IllegalStateException("such a glance is under way");
        }
    }

    /** Where the glances from one guest to another one stand in the rows of pairs. */
    private static int pairOf(int from, int to) {
        return from * MOST_GUESTS + to;
    }

    /** One dinner; its rows are long enough for every table, so that they serve again. */
    private static final class Dinner {
        /** Not 0, since a glance that arrives has 0 seconds to go until it has been looked at. */
        private static final int NONE = -1;

        int guests;
        int seconds;
        int limit;
        int speaker;
        int toSpeak;
        int pause;
        int unsaidInPauses;
        int meetings;
        int lost;
        /** How many glances are under way. */
        int sent;
        final int[] spoken;
        final int[] interruptions;
        final int[] coughs;
        final int[] unsaid;
        /** By pair: the seconds to go, or NONE. */
        final int[] toGo;
        /** By pair: how many were caught. */
        final int[] caught;
        /** The pairs whose glances are under way, in the order in which they were sent. */
        final int[] order;

        Dinner() {
            spoken = new int[MOST_GUESTS];
            interruptions = new int[MOST_GUESTS];
            coughs = new int[MOST_GUESTS];
            unsaid = new int[MOST_GUESTS];
            toGo = new int[PAIRS];
            caught = new int[PAIRS];
            order = new int[PAIRS];
            limit = FIRST_LIMIT;
            begin(FIRST_GUESTS);
        }

        void begin(int newGuests) {
            guests = newGuests;
            seconds = 0;
            speaker = NOBODY;
            toSpeak = 0;
            pause = 0;
            unsaidInPauses = 0;
            meetings = 0;
            lost = 0;
            sent = 0;
            Arrays.fill(spoken, 0);
            Arrays.fill(interruptions, 0);
            Arrays.fill(coughs, 0);
            Arrays.fill(unsaid, 0);
            Arrays.fill(toGo, NONE);
            Arrays.fill(caught, 0);
        }

        void copyOf(Dinner other) {
            guests = other.guests;
            seconds = other.seconds;
            limit = other.limit;
            speaker = other.speaker;
            toSpeak = other.toSpeak;
            pause = other.pause;
            unsaidInPauses = other.unsaidInPauses;
            meetings = other.meetings;
            lost = other.lost;
            sent = other.sent;
            System.arraycopy(other.spoken, 0, spoken, 0, MOST_GUESTS);
            System.arraycopy(other.interruptions, 0, interruptions, 0, MOST_GUESTS);
            System.arraycopy(other.coughs, 0, coughs, 0, MOST_GUESTS);
            System.arraycopy(other.unsaid, 0, unsaid, 0, MOST_GUESTS);
            System.arraycopy(other.toGo, 0, toGo, 0, PAIRS);
            System.arraycopy(other.caught, 0, caught, 0, PAIRS);
            System.arraycopy(other.order, 0, order, 0, PAIRS);
        }

        int letSpeak(int guest, int forSeconds) {
            int interrupted = speaker == guest ? NOBODY : speaker;
            if (interrupted != NOBODY) {
                interruptions[guest]++;
            }
            speaker = guest;
            toSpeak = forSeconds;
            return interrupted;
        }

        int letCough(int guest, int weight) {
            int left = unsaidByCough(guest, weight);
            coughs[guest]++;
            unsaid[guest] += left;
            return left;
        }

        private int unsaidByCough(int guest, int weight) {
            if (speaker == NOBODY) {
                return weight;
            }
            return speaker == guest ? 0 : weight / 2;
        }

        int send(int from, int to) {
            int pair = pairOf(from, to);
            if (sent < order.length) {
                order[sent] = pair;
                sent++;
                toGo[pair] = wayOf(from, to);
            }
            return wayOf(from, to);
        }

        void goBy(int howMany) {
            for (int i = 0; i < howMany; i++) {
                goOneSecond();
            }
        }

        private void goOneSecond() {
            speakOrPause();
            moveGlances();
            seconds++;
        }

        private void speakOrPause() {
            if (speaker == NOBODY) {
                pause++;
                if (beyondMultipleOfLimit(pause) == 0) {
                    unsaidInPauses++;
                }
                return;
            }
            pause = 0;
            spoken[speaker]++;
            toSpeak--;
            if (toSpeak == 0) {
                speaker = NOBODY;
            }
        }

        private void moveGlances() {
            for (int i = 0; i < sent; i++) {
                toGo[order[i]]--;
            }
            for (int i = 0; i < sent; i++) {
                int pair = order[i];
                if (toGo[pair] == 0) {
                    arrive(pair / MOST_GUESTS, pair % MOST_GUESTS);
                }
            }
            forgetThoseOver();
        }

        private void arrive(int from, int to) {
            int there = pairOf(from, to);
            int back = pairOf(to, from);
            if (isOnItsWay(back)) {
                meetings++;
                unsaid[from] += UNSAID_BY_MEETING;
                unsaid[to] += UNSAID_BY_MEETING;
                toGo[back] = NONE;
            } else if (speaker == to) {
                lost++;
            } else {
                caught[there]++;
                unsaid[from] += UNSAID_BY_CATCH;
            }
            toGo[there] = NONE;
        }

        private void forgetThoseOver() {
            int kept = 0;
            for (int i = 0; i < sent; i++) {
                int pair = order[i];
                if (isOnItsWay(pair)) {
                    order[kept] = pair;
                    kept++;
                }
            }
            sent = kept;
        }

        boolean isOnItsWay(int pair) {
            return toGo[pair] != NONE;
        }

        int timeToGo(int pair) {
            return isOnItsWay(pair) ? toGo[pair] : 0;
        }

        int seatsBetween(int a, int b) {
            int oneWay = Math.abs(a - b);
            return Math.min(oneWay, guests - oneWay);
        }

        private int wayOf(int from, int to) {
            return SECONDS_PER_SEAT * seatsBetween(from, to);
        }

        /** Holds as long as no glance from the one to the other is under way yet. */
        int fateOf(int from, int to, int moment) {
            // The one that comes back needs as long, so that neither can arrive before the other one is met.
            if (timeToGo(pairOf(to, from)) > moment) {
                return MEETS;
            }
            boolean speaksStill = speaker == to && toSpeak > moment + wayOf(from, to);
            return speaksStill ? IS_LOST : IS_CAUGHT;
        }

        int untilPauseCounts() {
            // Whoever speaks ends the pause, so that the next one begins behind this speech.
            return speaker == NOBODY ? limit - beyondMultipleOfLimit(pause) : toSpeak + limit;
        }

        private int beyondMultipleOfLimit(int length) {
            return limit > 0 ? length % limit : 0;
        }

        int sumUnsaidByGuests() {
            int sum = 0;
            for (int guest = 0; guest < guests; guest++) {
                sum += unsaid[guest];
            }
            return sum;
        }

        int sumUnsaid() {
            return sumUnsaidByGuests() + unsaidInPauses;
        }

        int rate() {
            int share = guests > 0 ? sumUnsaid() / guests : 0;
            return Math.max(0, BEST_RATING - Math.abs(share - BEST_SHARE));
        }
    }
}
