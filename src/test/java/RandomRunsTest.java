import java.util.Random;

/** Runs of 512 calls, the same ones each time, whose every answer is compared with that of the Model. */
final class RandomRunsTest {
    private static final int RUNS = 1500;
    private static final int CALLS = 512;
    private static final int KINDS = 34;

    private static final Dues DUES = new Dues();

    public static void main(String[] args) {
        for (int run = 0; run < RUNS; run++) {
            run(run);
        }
        DUES.end();
    }

    private static void run(int seed) {
        Random random = new Random(seed);
        PauseLedger x = new PauseLedger();
        Model m = new Model();
        // Some runs send many glances and let little time go by, others the other way round.
        int glancing = random.nextInt(4);
        int longest = random.nextInt(3) == 0 ? 120 : 1 + random.nextInt(6);
        for (int call = 0; call < CALLS; call += 2) {
            int kind = random.nextInt(4) < glancing ? 4 + random.nextInt(2) : random.nextInt(KINDS);
            int a = kind == 0 && random.nextInt(3) != 0 ? 0 : argument(random, kind, m.guests, longest);
            int b = kind == 2 ? argument(random, 6, 60, 60)
                : kind == 3 ? argument(random, 6, 9, 9) : argument(random, 4, m.guests, longest);
            String got = Dues.outcomeOf(() -> ofLedger(x, kind, a, b));
            String want = Dues.outcomeOf(() -> ofModel(m, kind, a, b));
            String name = "run " + seed + ", call " + call + ", kind " + kind + " (" + a + ", " + b + ")";
            DUES.compare(name, got, want);
            DUES.compare(name + ", digest behind it", String.valueOf(x.digest()), String.valueOf(m.digest()));
        }
    }

    private static int argument(Random random, int kind, int guests, int longest) {
        int odd = random.nextInt(60);
        if (odd == 0) {
            return random.nextInt();
        }
        if (odd == 1) {
            return random.nextBoolean() ? Integer.MIN_VALUE : Integer.MAX_VALUE;
        }
        if (odd == 2) {
            return -1 + random.nextInt(125);
        }
        switch (kind) {
            case 0:
                return 1 + random.nextInt(11);
            case 1:
                return random.nextInt(4) == 0 ? random.nextInt(32) : 1 + random.nextInt(6);
            case 5:
            case 6:
                return 1 + random.nextInt(longest);
            case 27:
            case 31:
                return random.nextInt(122);
            default:
                return random.nextInt(25) == 0 ? guests : random.nextInt(guests);
        }
    }

    private static Object ofLedger(PauseLedger x, int kind, int a, int b) {
        switch (kind) {
            case 0: return x.newDinner(a);
            case 1: return x.setLimit(a);
            case 2: return x.speak(a, b);
            case 3: return x.cough(a, b);
            case 4: return x.glance(a, b);
            case 5: case 6: return x.pass(a);
            case 7: return x.guests();
            case 8: return x.seconds();
            case 9: return x.limit();
            case 10: return x.seatsApart(a, b);
            case 11: return x.speaker();
            case 12: return x.secondsToSpeak();
            case 13: return x.pause();
            case 14: return x.spokenBy(a);
            case 15: return x.interruptionsBy(a);
            case 16: return x.coughsOf(a);
            case 17: return x.unsaidBy(a);
            case 18: return x.isUnderWay(a, b);
            case 19: return x.secondsToGo(a, b);
            case 20: return x.caughtBy(a, b);
            case 21: return x.unsaidInPauses();
            case 22: return x.allUnsaid();
            case 23: return x.glancesUnderWay();
            case 24: return x.meetings();
            case 25: return x.lostGlances();
            case 26: return x.quietest() * 100 + x.rating();
            case 27: return x.allUnsaidIn(a);
            case 28: return x.secondsUntilPauseCounts();
            case 29: return x.wouldLeave(a, b);
            case 30: return x.bestMoment(a, b);
            case 31: return x.ratingIn(a);
            case 32: return x.meanUnsaid();
            default: return x.glance(b, a);
        }
    }

    private static Object ofModel(Model m, int kind, int a, int b) {
        switch (kind) {
            case 0: return m.newDinner(a);
            case 1: return m.setLimit(a);
            case 2: return m.speak(a, b);
            case 3: return m.cough(a, b);
            case 4: return m.glance(a, b);
            case 5: case 6: return m.pass(a);
            case 7: return m.guests;
            case 8: return m.seconds;
            case 9: return m.limit;
            case 10: return m.seatsApart(a, b);
            case 11: return m.speaker;
            case 12: return m.toSpeak;
            case 13: return m.pause();
            case 14: return m.of(m.spoken, a);
            case 15: return m.of(m.interruptions, a);
            case 16: return m.of(m.coughs, a);
            case 17: return m.of(m.unsaid, a);
            case 18: return m.isUnderWay(a, b);
            case 19: return m.secondsToGo(a, b);
            case 20: return m.caughtBy(a, b);
            case 21: return m.inPauses;
            case 22: return m.allUnsaid();
            case 23: return m.glancesUnderWay();
            case 24: return m.meetings;
            case 25: return m.lost;
            case 26: return m.quietest() * 100 + m.rating();
            case 27: return m.allUnsaidIn(a);
            case 28: return m.secondsUntilPauseCounts();
            case 29: return m.wouldLeave(a, b);
            case 30: return m.bestMoment(a, b);
            case 31: return m.ratingIn(a);
            case 32: return m.meanUnsaid();
            default: return m.glance(b, a);
        }
    }
}
