import java.util.ArrayList;
import java.util.List;

/**
 * A second, slow program for the same document, against which RandomRunsTest compares.
 * What would be is found by living it through on a copy, and no formula is shared with the first program.
 */
final class Model {
    private static final class Glance {
        final int from;
        final int to;
        final int due;
        String fate = "";

        Glance(int from, int to, int due) {
            this.from = from;
            this.to = to;
            this.due = due;
        }
    }

    int guests = 4;
    int limit = 5;
    int seconds;
    int lastWord;
    int speaker = -1;
    int toSpeak;
    int inPauses;
    int meetings;
    int lost;
    int[] spoken = new int[4];
    int[] interruptions = new int[4];
    int[] coughs = new int[4];
    int[] unsaid = new int[4];
    int[][] caught = new int[4][4];
    private List<Glance> underWay = new ArrayList<>();

    private Model copy() {
        Model c = new Model();
        c.guests = guests;
        c.limit = limit;
        c.seconds = seconds;
        c.lastWord = lastWord;
        c.speaker = speaker;
        c.toSpeak = toSpeak;
        c.inPauses = inPauses;
        c.meetings = meetings;
        c.lost = lost;
        c.spoken = spoken.clone();
        c.interruptions = interruptions.clone();
        c.coughs = coughs.clone();
        c.unsaid = unsaid.clone();
        c.caught = new int[guests][];
        for (int i = 0; i < guests; i++) {
            c.caught[i] = caught[i].clone();
        }
        for (Glance g : underWay) {
            c.underWay.add(new Glance(g.from, g.to, g.due));
        }
        return c;
    }

    private Glance find(int from, int to) {
        for (Glance g : underWay) {
            if (g.from == from && g.to == to) {
                return g;
            }
        }
        return null;
    }

    private void guest(int guest) {
        if (guest < 0 || guest > guests - 1) {
            throw new IndexOutOfBoundsException();
        }
    }

    private static void number(int number, int most) {
        if (number <= 0 || number > most) {
            throw new IllegalArgumentException();
        }
    }

    private void way(int from, int to) {
        guest(from);
        guest(to);
        if (from == to) {
            throw new IllegalArgumentException();
        }
        if (find(from, to) != null) {
            throw new IllegalStateException();
        }
    }

    int newDinner(int number) {
        number(number - 1, 9);
        int before = rating();
        guests = number;
        seconds = 0;
        lastWord = 0;
        speaker = -1;
        toSpeak = 0;
        inPauses = 0;
        meetings = 0;
        lost = 0;
        spoken = new int[number];
        interruptions = new int[number];
        coughs = new int[number];
        unsaid = new int[number];
        caught = new int[number][number];
        underWay = new ArrayList<>();
        return before;
    }

    int setLimit(int number) {
        number(number, 30);
        int before = limit;
        limit = number;
        return before;
    }

    int speak(int guest, int number) {
        guest(guest);
        number(number, 60);
        int interrupted = -1;
        if (speaker >= 0 && speaker != guest) {
            interrupted = speaker;
            interruptions[guest] += 1;
        }
        speaker = guest;
        toSpeak = number;
        return interrupted;
    }

    int cough(int guest, int weight) {
        guest(guest);
        number(weight, 9);
        int before = unsaid[guest];
        coughs[guest] += 1;
        if (speaker < 0) {
            unsaid[guest] += weight;
        } else if (speaker != guest) {
            unsaid[guest] += weight / 2;
        }
        return unsaid[guest] - before;
    }

    int glance(int from, int to) {
        way(from, to);
        int time = 2 * seatsApart(from, to);
        underWay.add(new Glance(from, to, seconds + time));
        return time;
    }

    int pass(int number) {
        number(number, 120);
        int before = allUnsaid();
        for (int i = 0; i < number; i++) {
            second();
        }
        return allUnsaid() - before;
    }

    private void second() {
        int now = seconds + 1;
        if (speaker >= 0) {
            lastWord = now;
            spoken[speaker] += 1;
            toSpeak -= 1;
            if (toSpeak == 0) {
                speaker = -1;
            }
        } else if ((now - lastWord) % limit == 0) {
            inPauses += 1;
        }
        List<Glance> all = new ArrayList<>(underWay);
        for (Glance g : all) {
            if (g.due == now && underWay.contains(g)) {
                arrive(g);
            }
        }
        seconds = now;
    }

    private void arrive(Glance g) {
        Glance back = find(g.to, g.from);
        if (back != null) {
            meetings += 1;
            unsaid[g.from] += 3;
            unsaid[g.to] += 3;
            back.fate = "meets";
            g.fate = "meets";
            underWay.remove(back);
        } else if (speaker == g.to) {
            lost += 1;
            g.fate = "lost";
        } else {
            caught[g.from][g.to] += 1;
            unsaid[g.from] += 1;
            g.fate = "caught";
        }
        underWay.remove(g);
    }

    int pause() {
        return seconds - lastWord;
    }

    int seatsApart(int a, int b) {
        guest(a);
        guest(b);
        int up = 0;
        while ((a + up) % guests != b) {
            up++;
        }
        int down = 0;
        while ((b + down) % guests != a) {
            down++;
        }
        return up < down ? up : down;
    }

    int of(int[] row, int guest) {
        guest(guest);
        return row[guest];
    }

    boolean isUnderWay(int from, int to) {
        guest(from);
        guest(to);
        return find(from, to) != null;
    }

    int secondsToGo(int from, int to) {
        return isUnderWay(from, to) ? find(from, to).due - seconds : 0;
    }

    int caughtBy(int from, int to) {
        guest(from);
        guest(to);
        return caught[from][to];
    }

    private int sum() {
        int sum = 0;
        for (int each : unsaid) {
            sum += each;
        }
        return sum;
    }

    int allUnsaid() {
        return sum() + inPauses;
    }

    int glancesUnderWay() {
        return underWay.size();
    }

    int quietest() {
        int most = guests - 1;
        for (int guest = guests - 1; guest >= 0; guest--) {
            most = unsaid[guest] >= unsaid[most] ? guest : most;
        }
        return most;
    }

    int rating() {
        int share = allUnsaid() / guests;
        int rating = share > 4 ? 14 - share : 6 + share;
        return rating < 0 ? 0 : rating;
    }

    int allUnsaidIn(int number) {
        number(number, 120);
        Model later = copy();
        later.pass(number);
        return later.allUnsaid();
    }

    int secondsUntilPauseCounts() {
        Model later = copy();
        int behind = 0;
        while (later.inPauses == inPauses) {
            later.second();
            behind++;
        }
        return behind;
    }

    private static int fateIn(Model later, int from, int to) {
        later.glance(from, to);
        Glance sent = later.find(from, to);
        while (sent.fate.isEmpty()) {
            later.second();
        }
        return sent.fate.equals("meets") ? 3 : sent.fate.equals("caught") ? 1 : 0;
    }

    int wouldLeave(int from, int to) {
        way(from, to);
        return fateIn(copy(), from, to);
    }

    int bestMoment(int from, int to) {
        way(from, to);
        Model later = copy();
        for (int moment = 0; moment <= 60; moment++) {
            if (fateIn(later.copy(), from, to) != 0) {
                return moment;
            }
            later.second();
        }
        return -1;
    }

    int ratingIn(int number) {
        number(number, 120);
        Model later = copy();
        later.pass(number);
        return later.rating();
    }

    double meanUnsaid() {
        return sum() / (double) guests;
    }

    long digest() {
        List<Integer> numbers = new ArrayList<>(List.of(guests, seconds, limit, speaker, toSpeak, pause()));
        numbers.addAll(List.of(inPauses, glancesUnderWay(), meetings, lost, rating()));
        for (int guest = 0; guest < guests; guest++) {
            numbers.addAll(List.of(spoken[guest], interruptions[guest], coughs[guest], unsaid[guest]));
            for (int to = 0; to < guests; to++) {
                numbers.addAll(List.of(secondsToGo(guest, to), caught[guest][to]));
            }
        }
        long d = 1973;
        for (int number : numbers) {
            d = d * 31 + number;
        }
        return d;
    }
}
