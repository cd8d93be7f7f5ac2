import java.util.ArrayList;
import java.util.Arrays;
import java.util.Collections;
import java.util.Comparator;
import java.util.HashSet;
import java.util.List;
import java.util.Set;

/** The document's promises once more, as near to its words as can be and without a care for speed. */
final class PlainDesk {
    static final int NO_OFF = -100000;

    private final List<List<int[]>> pieces = new ArrayList<>();
    private final List<List<Integer>> recordings = new ArrayList<>();
    private final int[] pieceOf = new int[10];
    private int tempo = 2;
    private int hole = 20;
    private int stretch = 30;
    private int lack = 400;
    private int ear = 40;
    private final Set<Integer> singing = new HashSet<>();
    private final List<List<Integer>> rows = new ArrayList<>();
    private final List<int[]> spans = new ArrayList<>();
    private List<Integer> performances = new ArrayList<>();
    private int halls = 2;
    private int[] hours = new int[0];
    private int fewest = 0;

    PlainDesk() {
        for (int i = 0; i < 6; i++) {
            pieces.add(new ArrayList<>());
        }
        for (int i = 0; i < 10; i++) {
            recordings.add(new ArrayList<>());
        }
        for (int i = 0; i < 9; i++) {
            rows.add(new ArrayList<>());
        }
    }

    private static boolean in(long value, long least, long most) {
        return least <= value && value <= most;
    }

    int note(int piece, int pitch, int beats) {
        if (!in(piece, 0, 5) || !in(pitch, 0, 4800) || !in(beats, 1, 8) || pieces.get(piece).size() == 24) {
            return -1;
        }
        pieces.get(piece).add(new int[] {pitch, beats});
        return pieces.get(piece).size();
    }

    int record(int r, int piece) {
        if (!in(r, 0, 9) || !in(piece, 0, 5)) {
            return -1;
        }
        int had = recordings.get(r).size();
        recordings.get(r).clear();
        pieceOf[r] = piece;
        return had;
    }

    int read(int r, int pitch, int n) {
        if (!in(r, 0, 9) || !in(pitch, -1, 4800) || !in(n, 1, 60) || recordings.get(r).size() + n > 120) {
            return -1;
        }
        recordings.get(r).addAll(Collections.nCopies(n, pitch));
        return recordings.get(r).size();
    }

    boolean rules(int newTempo, int newHole, int newStretch, int newLack, int newEar) {
        if (!in(newTempo, 1, 8) || !in(newHole, 0, 1000) || !in(newStretch, 0, 1000)
                || !in(newLack, 0, 10000) || !in(newEar, 0, 1000)) {
            return false;
        }
        tempo = newTempo;
        hole = newHole;
        stretch = newStretch;
        lack = newLack;
        ear = newEar;
        return true;
    }

    /** How many readings each note takes in THE LAYING; null when there is none. */
    int[] laying(int r) {
        if (!in(r, 0, 9) || pieces.get(pieceOf[r]).isEmpty()) {
            return null;
        }
        List<int[]> notes = pieces.get(pieceOf[r]);
        int end = recordings.get(r).size();
        long[][] least = new long[notes.size() + 1][end + 1];
        int[][] taken = new int[notes.size() + 1][end + 1];
        Arrays.fill(least[notes.size()], Long.MAX_VALUE / 4);
        least[notes.size()][end] = 0;
        for (int k = notes.size() - 1; k >= 0; k--) {
            for (int i = 0; i <= end; i++) {
                least[k][i] = Long.MAX_VALUE;
                long readingCost = 0;
                for (int m = 0; i + m <= end; m++) {
                    if (m > 0) {
                        readingCost += readingCost(r, k, i + m - 1);
                    }
                    long cost = readingCost + lengthCost(r, k, m) + least[k + 1][i + m];
                    if (cost < least[k][i]) {
                        least[k][i] = cost;
                        taken[k][i] = m;
                    }
                }
            }
        }
        int[] many = new int[notes.size()];
        int at = 0;
        for (int k = 0; k < many.length; k++) {
            many[k] = taken[k][at];
            at += many[k];
        }
        return many;
    }

    private long readingCost(int r, int k, int i) {
        int reading = recordings.get(r).get(i);
        return reading == -1 ? hole : Math.min(300, Math.abs(reading - pieces.get(pieceOf[r]).get(k)[0]));
    }

    private long lengthCost(int r, int k, int m) {
        long cost = (long) stretch * Math.abs(m - pieces.get(pieceOf[r]).get(k)[1] * tempo);
        return m == 0 ? cost + lack : cost;
    }

    /** The cost of a laying in which note k takes many[k] readings. */
    long cost(int r, int[] many) {
        long cost = 0;
        int at = 0;
        for (int k = 0; k < many.length; k++) {
            cost += lengthCost(r, k, many[k]);
            for (int m = 0; m < many[k]; m++) {
                cost += readingCost(r, k, at++);
            }
        }
        return cost;
    }

    int lay(int r) {
        int[] many = laying(r);
        return many == null ? -1 : (int) cost(r, many);
    }

    private static int firstOf(int[] many, int k) {
        return Arrays.stream(many, 0, k).sum();
    }

    private int[] offs(int r, int[] many) {
        int[] offs = new int[many.length];
        for (int k = 0; k < many.length; k++) {
            double sum = 0;
            int heard = 0;
            for (int i = firstOf(many, k); i < firstOf(many, k + 1); i++) {
                if (recordings.get(r).get(i) != -1) {
                    heard++;
                    sum += recordings.get(r).get(i) - pieces.get(pieceOf[r]).get(k)[0];
                }
            }
            offs[k] = heard == 0 ? NO_OFF : (int) Math.floor(sum / heard);
        }
        return offs;
    }

    private boolean isFault(int[] many, int[] offs, int k) {
        if (many[k] == 0) {
            return true;
        }
        if (offs[k] == NO_OFF) {
            return false;
        }
        int ahead = k - 1;
        while (ahead >= 0 && offs[ahead] == NO_OFF) {
            ahead--;
        }
        return Math.abs(offs[k] - (ahead < 0 ? 0 : offs[ahead])) > ear;
    }

    int laid(int r, int k, int what) {
        int[] many = laying(r);
        if (many == null || !in(k, 0, many.length - 1) || !in(what, 0, 2)) {
            return -2;
        }
        if (what == 0) {
            return many[k] == 0 ? -1 : firstOf(many, k);
        }
        return what == 1 ? many[k] : isFault(many, offs(r, many), k) ? 1 : 0;
    }

    int off(int r, int k) {
        int[] many = laying(r);
        return many == null || !in(k, 0, many.length - 1) ? NO_OFF : offs(r, many)[k];
    }

    int told(int r, int what) {
        int[] many = laying(r);
        if (many == null || !in(what, 0, 1)) {
            return NO_OFF;
        }
        int[] offs = offs(r, many);
        if (what == 1) {
            int faults = 0;
            for (int k = 0; k < many.length; k++) {
                faults += isFault(many, offs, k) ? 1 : 0;
            }
            return faults;
        }
        int[] heard = Arrays.stream(offs).filter(o -> o != NO_OFF).toArray();
        return heard.length == 0 ? 0 : heard[0] - heard[heard.length - 1];
    }

    int sing(int bits) {
        if (bits <= 0 || bits >= 1024) {
            return -1;
        }
        singing.clear();
        for (int club = 0; club < 10; club++) {
            if ((bits & (1 << club)) != 0) {
                singing.add(club);
            }
        }
        return singing.size();
    }

    boolean judge(int j, int n, long row) {
        if (!in(j, 0, 8) || !in(n, 0, 10)) {
            return false;
        }
        List<Integer> clubs = new ArrayList<>();
        long rest = row;
        for (int i = 0; i < n; i++) {
            clubs.add((int) (rest & 0xf));
            rest >>= 4;
        }
        if (new HashSet<>(clubs).size() != n || clubs.stream().anyMatch(c -> c > 9)) {
            return false;
        }
        rows.set(j, clubs);
        return true;
    }

    private List<List<Integer>> counting() {
        List<List<Integer>> counting = new ArrayList<>();
        for (List<Integer> row : rows) {
            if (!row.isEmpty() && new HashSet<>(row).equals(singing)) {
                counting.add(row);
            }
        }
        return counting;
    }

    int judges() {
        return counting().size();
    }

    private int sumTo(int club, int k) {
        return counting().stream().mapToInt(row -> row.indexOf(club) + 1).filter(rank -> rank <= k).sum();
    }

    private int countTo(int club, int k) {
        return (int) counting().stream().filter(row -> row.indexOf(club) + 1 <= k).count();
    }

    /** The comparison of THE PLACES for clubs that got the greater half at rank k. */
    private int compare(int a, int b, int k) {
        for (int rank = k; rank <= singing.size(); rank++) {
            int byCount = countTo(b, rank) - countTo(a, rank);
            int bySum = sumTo(a, rank) - sumTo(b, rank);
            if (byCount != 0 || bySum != 0) {
                return byCount != 0 ? byCount : bySum;
            }
        }
        return 0;
    }

    /** Gives places rank by rank, as the document tells it. */
    int place(int club) {
        if (!singing.contains(club) || counting().isEmpty()) {
            return -1;
        }
        int[] places = new int[10];
        int given = 0;
        for (int k = 1; given < singing.size(); k++) {
            final int rank = k;
            List<Integer> now = new ArrayList<>();
            for (int c : singing) {
                if (places[c] == 0 && countTo(c, k) > judges() / 2.0) {
                    now.add(c);
                }
            }
            Comparator<Integer> order = (a, b) -> compare(a, b, rank);
            now.sort(order);
            for (int i = 0; i < now.size(); i++) {
                boolean shares = i > 0 && compare(now.get(i - 1), now.get(i), k) == 0;
                places[now.get(i)] = shares ? places[now.get(i - 1)] : given + i + 1;
            }
            given += now.size();
        }
        return places[club];
    }

    int ranks(int club, int k) {
        return !singing.contains(club) || k < 1 ? -1 : countTo(club, k);
    }

    int member(int person, int club, int from, int to) {
        if (!in(person, 0, 29) || !in(club, 0, 9) || !in(from, 0, to) || !in(to, from, 1000) || spans.size() == 60) {
            return -1;
        }
        spans.add(new int[] {person, club, from, to});
        return spans.size();
    }

    int may(int person, int club, int day) {
        if (!in(person, 0, 29) || !in(club, 0, 9) || !in(day, 0, 1000)) {
            return -1;
        }
        return spans.stream().anyMatch(s -> s[0] == person && s[1] == club && s[2] <= day && day <= s[3]) ? 1 : 0;
    }

    int singers(int club, int day) {
        if (!in(club, 0, 9) || !in(day, 0, 1000)) {
            return -1;
        }
        int bits = 0;
        for (int person = 0; person < 30; person++) {
            bits += may(person, club, day) << person;
        }
        return bits;
    }

    int perform(int club) {
        if (!in(club, 0, 9) || performances.size() == 12) {
            return -1;
        }
        performances.add(club);
        return performances.size() - 1;
    }

    int clear() {
        int were = performances.size();
        performances = new ArrayList<>();
        return were;
    }

    int halls(int n) {
        if (!in(n, 1, 4)) {
            return -1;
        }
        int was = halls;
        halls = n;
        return was;
    }

    int hours(int day) {
        if (!in(day, 0, 1000)) {
            return -1;
        }
        hours = new int[performances.size()];
        fewest = performances.size() + 1;
        standFrom(0, 0, new int[performances.size()], clashes(day));
        return fewest;
    }

    /** All ways to stand, the lesser hours first: a later way is kept only if it has fewer hours. */
    private void standFrom(int i, int used, int[] standing, boolean[][] clashes) {
        if (used >= fewest) {
            return;
        }
        if (i == standing.length) {
            fewest = used;
            hours = standing.clone();
            return;
        }
        for (int hour = 0; hour <= used; hour++) {
            if (mayStand(i, hour, standing, clashes)) {
                standing[i] = hour;
                standFrom(i + 1, Math.max(used, hour + 1), standing, clashes);
            }
        }
    }

    private boolean mayStand(int i, int hour, int[] standing, boolean[][] clashes) {
        int there = 0;
        for (int other = 0; other < i; other++) {
            if (standing[other] == hour) {
                there++;
                if (clashes[i][other]) {
                    return false;
                }
            }
        }
        return there < halls;
    }

    private boolean[][] clashes(int day) {
        int n = performances.size();
        boolean[][] clashes = new boolean[n][n];
        for (int i = 0; i < n; i++) {
            for (int other = 0; other < n; other++) {
                int club = performances.get(i);
                int otherClub = performances.get(other);
                clashes[i][other] = club == otherClub || (singers(club, day) & singers(otherClub, day)) != 0;
            }
        }
        return clashes;
    }

    int hour(int i) {
        return in(i, 0, hours.length - 1) ? hours[i] : -1;
    }

    int draw(int n, int seed, int i) {
        if (!in(n, 1, 12) || !in(i, 0, n - 1)) {
            return -1;
        }
        int[] row = new int[n];
        for (int place = 0; place < n; place++) {
            row[place] = place;
        }
        long g = seed;
        for (int place = n - 1; place > 0; place--) {
            g = (1103515245L * (int) g + 12345L) & 0xffffffffL;
            int other = (int) ((g >> 8) % (place + 1));
            int kept = row[other];
            row[other] = row[place];
            row[place] = kept;
        }
        return row[i];
    }
}
