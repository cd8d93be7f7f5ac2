/**
 * The desk of a prize singing: recordings laid along pieces, places from judges' rows,
 * members of clubs by days, hours of performances and drawn orders.
 */
public final class GleePrize {
    public static final int NONE = -1;

    private static final int PIECES = 6;
    private static final int RECORDINGS = 10;
    private static final int NOTES = 24;
    private static final int READINGS = 120;
    private static final int READINGS_AT_ONCE = 60;
    private static final int TOP_PITCH = 4800;
    private static final int MOST_BEATS = 8;
    private static final int CLUBS = 10;
    private static final int JUDGES = 9;
    private static final int PERSONS = 30;
    private static final int LAST_DAY = 1000;
    private static final int SPANS = 60;
    private static final int PERFORMANCES = 12;
    private static final int MOST_HALLS = 4;
    private static final int LONGEST_ORDER = 12;
    private static final int NO_SUCH_NOTE = -2;
    private static final int NO_OFF = -100000;

    private final Piece[] pieces;
    private final Recording[] recordings;
    private final Measure measure;
    private final Laying laying;
    private final Panel panel;
    private final Roll roll;
    private final Timetable timetable;
    private final int[] order;

    public GleePrize() {
        pieces = new Piece[PIECES];
        for (int i = 0; i < PIECES; i++) {
            pieces[i] = new Piece();
        }
        recordings = new Recording[RECORDINGS];
        for (int i = 0; i < RECORDINGS; i++) {
            recordings[i] = new Recording();
        }
        measure = new Measure();
        laying = new Laying();
        panel = new Panel();
        roll = new Roll();
        timetable = new Timetable();
        order = new int[LONGEST_ORDER];
    }

    public int note(int piece, int pitch, int beats) {
        if (!isWithin(piece, 0, PIECES - 1) || !isWithin(pitch, 0, TOP_PITCH)) {
            return NONE;
        }
        if (!isWithin(beats, 1, MOST_BEATS) || pieces[piece].size >= NOTES) {
            return NONE;
        }
        laying.forget();
        return pieces[piece].addNote(pitch, beats);
    }

    public int record(int r, int piece) {
        if (!isWithin(r, 0, RECORDINGS - 1) || !isWithin(piece, 0, PIECES - 1)) {
            return NONE;
        }
        laying.forget();
        return recordings[r].startAnew(piece);
    }

    public int read(int r, int pitch, int n) {
        if (!isWithin(r, 0, RECORDINGS - 1) || !isWithin(n, 1, READINGS_AT_ONCE)) {
            return NONE;
        }
        if (pitch != NONE && !isWithin(pitch, 0, TOP_PITCH)) {
            return NONE;
        }
        if (recordings[r].size + n > READINGS) {
            return NONE;
        }
        laying.forget();
        return recordings[r].addReadings(pitch, n);
    }

    public boolean rules(int tempo, int hole, int stretch, int lack, int ear) {
        if (!isWithin(tempo, 1, 8) || !isWithin(hole, 0, 1000) || !isWithin(stretch, 0, 1000)) {
            return false;
        }
        if (!isWithin(lack, 0, 10000) || !isWithin(ear, 0, 1000)) {
            return false;
        }
        laying.forget();
        measure.change(tempo, hole, stretch, lack, ear);
        return true;
    }

    public int lay(int r) {
        return hasLaying(r) ? laying.cost : NONE;
    }

    public int laid(int r, int k, int what) {
        if (!hasLaying(r) || !isWithin(k, 0, laying.size - 1)) {
            return NO_SUCH_NOTE;
        }
        switch (what) {
            case 0:
                return laying.first[k];
            case 1:
                return laying.many[k];
            case 2:
                return laying.fault[k];
            default:
                return NO_SUCH_NOTE;
        }
    }

    public int off(int r, int k) {
        if (!hasLaying(r) || !isWithin(k, 0, laying.size - 1)) {
            return NO_OFF;
        }
        return laying.offs[k];
    }

    public int told(int r, int what) {
        if (!isWithin(what, 0, 1) || !hasLaying(r)) {
            return NO_OFF;
        }
        return what == 0 ? laying.sunk : laying.faults;
    }

    // ---- judges

    public int sing(int bits) {
        if (!isWithin(bits, 1, (1 << CLUBS) - 1)) {
            return NONE;
        }
        panel.singing = bits;
        return Integer.bitCount(bits);
    }

    public boolean judge(int j, int n, long row) {
        if (!isWithin(j, 0, JUDGES - 1) || !isWithin(n, 0, CLUBS)) {
            return false;
        }
        return panel.takeRow(j, n, row);
    }

    public int judges() {
        return panel.countJudges();
    }

    public int place(int club) {
        if (!panel.isSinging(club) || panel.countJudges() == 0) {
            return NONE;
        }
        return panel.findPlace(club);
    }

    public int ranks(int club, int k) {
        if (!panel.isSinging(club) || k < 1) {
            return NONE;
        }
        return panel.countRanks(club, k);
    }

    // ---- members, hours

    public int member(int person, int club, int from, int to) {
        if (!isWithin(person, 0, PERSONS - 1) || !isWithin(club, 0, CLUBS - 1)) {
            return NONE;
        }
        if (!isDay(from) || !isDay(to) || from > to || roll.size >= SPANS) {
            return NONE;
        }
        return roll.addSpan(person, club, from, to);
    }

    public int may(int person, int club, int day) {
        if (!isWithin(person, 0, PERSONS - 1) || !isWithin(club, 0, CLUBS - 1) || !isDay(day)) {
            return NONE;
        }
        return roll.findSingers(club, day) >> person & 1;
    }

    public int singers(int club, int day) {
        if (!isWithin(club, 0, CLUBS - 1) || !isDay(day)) {
            return NONE;
        }
        return roll.findSingers(club, day);
    }

    public int perform(int club) {
        if (!isWithin(club, 0, CLUBS - 1) || timetable.size >= PERFORMANCES) {
            return NONE;
        }
        return timetable.addPerformance(club);
    }

    public int clear() {
        int were = timetable.size;
        timetable.size = 0;
        return were;
    }

    public int halls(int n) {
        if (!isWithin(n, 1, MOST_HALLS)) {
            return NONE;
        }
        int were = timetable.hallCount;
        timetable.hallCount = n;
        return were;
    }

    public int hours(int day) {
        if (!isDay(day)) {
            return NONE;
        }
        return timetable.findHours(roll, day);
    }

    public int hour(int i) {
        if (!isWithin(i, 0, timetable.stood - 1)) {
            return NONE;
        }
        return timetable.hourOf[i];
    }

    public int draw(int n, int seed, int i) {
        if (!isWithin(n, 1, LONGEST_ORDER) || !isWithin(i, 0, n - 1)) {
            return NONE;
        }
        drawOrder(n, seed);
        return order[i];
    }

    private static boolean isWithin(int value, int least, int most) {
        return value >= least && value <= most;
    }

    private static boolean isDay(int day) {
        return isWithin(day, 0, LAST_DAY);
    }

    /** Whether recording r has THE LAYING; if so, it stands in the field laying afterwards. */
    private boolean hasLaying(int r) {
        if (!isWithin(r, 0, RECORDINGS - 1)) {
            return false;
        }
        Recording recording = recordings[r];
        Piece piece = pieces[recording.piece];
        if (piece.size == 0) {
            return false;
        }
        if (laying.recordingLaid != r) {
            laying.find(piece, recording, measure);
            laying.recordingLaid = r;
        }
        return true;
    }

    private void drawOrder(int n, int seed) {
        for (int i = 0; i < n; i++) {
            order[i] = i;
        }
        int g = seed;
        for (int i = n - 1; i >= 1; i--) {
            g = 1103515245 * g + 12345;
            int other = (g >>> 8) % (i + 1);
            int moved = order[i];
            order[i] = order[other];
            order[other] = moved;
        }
    }

    /** The notes of a piece. */
    private static final class Piece {
        final int[] pitches = new int[NOTES];
        final int[] beats = new int[NOTES];
        int size = 0;

        int addNote(int pitch, int beatsOfNote) {
            pitches[size] = pitch;
            beats[size] = beatsOfNote;
            size++;
            return size;
        }
    }

    /** The readings of a recording, a gap standing as NONE, and the piece that it is of. */
    private static final class Recording {
        final int[] readings = new int[READINGS];
        int size = 0;
        int piece = 0;

        int startAnew(int pieceSung) {
            int had = size;
            size = 0;
            piece = pieceSung;
            return had;
        }

        int addReadings(int pitch, int n) {
            for (int i = 0; i < n; i++) {
                readings[size] = pitch;
                size++;
            }
            return size;
        }
    }

    /** What a laying costs, and how fine the ear is. */
    private static final class Measure {
        private static final int FARTHEST = 300;

        int tempo = 2;
        int hole = 20;
        int stretch = 30;
        int lack = 400;
        int ear = 40;

        void change(int newTempo, int newHole, int newStretch, int newLack, int newEar) {
            tempo = newTempo;
            hole = newHole;
            stretch = newStretch;
            lack = newLack;
            ear = newEar;
        }

        int costOfReading(int reading, int pitch) {
            return reading == NONE ? hole : Math.min(Math.abs(reading - pitch), FARTHEST);
        }

        int costOfLength(int taken, int beats) {
            int cost = stretch * Math.abs(taken - beats * tempo);
            return taken == 0 ? cost + lack : cost;
        }
    }

    /** THE LAYING of one recording. It is kept until something changes, as many questions may follow. */
    private static final class Laying {
        // Far above every cost, and far enough below the greatest int to be added to.
        private static final int IMPOSSIBLE = 1000000000;

        final int[] first = new int[NOTES];
        final int[] many = new int[NOTES];
        final int[] offs = new int[NOTES];
        final int[] fault = new int[NOTES];
        int size = 0;
        int cost = 0;
        int sunk = 0;
        int faults = 0;
        int recordingLaid = NONE;

        // best[k][i]: the least cost of the readings from i on in the notes from k on.
        private final int[][] best = new int[NOTES + 1][READINGS + 1];
        private final int[] sums = new int[READINGS + 1];
        private final int[] tooFew = new int[READINGS + 1];
        private final int[] enough = new int[READINGS + 1];

        void forget() {
            recordingLaid = NONE;
        }

        void find(Piece piece, Recording recording, Measure measure) {
            size = piece.size;
            endAt(recording.size);
            for (int k = size - 1; k >= 0; k--) {
                addUpReadings(recording, measure, piece.pitches[k]);
                splitByLength(best[k + 1], recording.size, measure.stretch);
                int due = piece.beats[k] * measure.tempo;
                for (int i = 0; i <= recording.size; i++) {
                    best[k][i] = findLeast(i, i + due, recording.size, measure) - sums[i];
                }
            }
            cost = best[0][0];
            layForward(piece, recording, measure);
            hear(piece, recording, measure.ear);
        }

        /** Behind the last note no reading may be left. */
        private void endAt(int end) {
            for (int i = 0; i < end; i++) {
                best[size][i] = IMPOSSIBLE;
            }
            best[size][end] = 0;
        }

        private void addUpReadings(Recording recording, Measure measure, int pitch) {
            sums[0] = 0;
            for (int i = 0; i < recording.size; i++) {
                sums[i + 1] = sums[i] + measure.costOfReading(recording.readings[i], pitch);
            }
        }

        /**
         * The stretch of a note from i to ahead of j is that of i + due - j while it is too short, and
         * that of j - i - due from then on. The parts with j stand in two rows of their own, so that an i
         * need not look at every j: of all ends from the due one on the best is found here once.
         */
        private void splitByLength(int[] behind, int end, int stretch) {
            int least = 2 * IMPOSSIBLE;
            for (int j = end; j >= 0; j--) {
                int whole = sums[j] + behind[j];
                tooFew[j] = whole - stretch * j;
                least = Math.min(least, whole + stretch * j);
                enough[j] = least;
            }
        }

        /** The least cost, with sums[i] too much, of a note that begins at i and is due to end at dueEnd. */
        private int findLeast(int i, int dueEnd, int end, Measure measure) {
            int dueCost = measure.stretch * dueEnd;
            int least = tooFew[i] + measure.lack;
            for (int j = i + 1; j < dueEnd && j <= end; j++) {
                least = Math.min(least, tooFew[j]);
            }
            least += dueCost;
            return dueEnd <= end ? Math.min(least, enough[dueEnd] - dueCost) : least;
        }

        private void layForward(Piece piece, Recording recording, Measure measure) {
            int at = 0;
            for (int k = 0; k < size; k++) {
                int taken = findTaken(piece, recording, measure, k, at);
                first[k] = taken == 0 ? NONE : at;
                many[k] = taken;
                at += taken;
            }
        }

        /** The fewest readings from at on that note k can take in a laying of the least cost. */
        private int findTaken(Piece piece, Recording recording, Measure measure, int k, int at) {
            int rest = recording.size - at;
            int readingCost = 0;
            for (int taken = 0; taken < rest; taken++) {
                int whole = readingCost + measure.costOfLength(taken, piece.beats[k]) + best[k + 1][at + taken];
                if (whole == best[k][at]) {
                    return taken;
                }
                readingCost += measure.costOfReading(recording.readings[at + taken], piece.pitches[k]);
            }
            return rest;
        }

        private void hear(Piece piece, Recording recording, int ear) {
            int firstOff = NO_OFF;
            int lastOff = 0;
            faults = 0;
            for (int k = 0; k < size; k++) {
                offs[k] = findOff(recording, k, piece.pitches[k]);
                boolean isFault = many[k] == 0;
                if (offs[k] != NO_OFF) {
                    isFault = Math.abs(offs[k] - lastOff) > ear;
                    lastOff = offs[k];
                    firstOff = firstOff == NO_OFF ? lastOff : firstOff;
                }
                fault[k] = isFault ? 1 : 0;
                faults += fault[k];
            }
            sunk = firstOff == NO_OFF ? 0 : firstOff - lastOff;
        }

        private int findOff(Recording recording, int k, int pitch) {
            int heard = 0;
            int sum = 0;
            for (int i = 0; i < many[k]; i++) {
                int reading = recording.readings[first[k] + i];
                if (reading != NONE) {
                    heard++;
                    sum += reading - pitch;
                }
            }
            return heard == 0 ? NO_OFF : Math.floorDiv(sum, heard);
        }
    }

    /** The judges' rows, and THE PLACES by them. */
    private static final class Panel {
        int singing = 0;

        // The clubs in each judge's row as bits, and the rank of each of them there.
        private final int[] rowBits = new int[JUDGES];
        private final int[][] rankIn = new int[JUDGES][CLUBS];

        boolean takeRow(int j, int n, long row) {
            int bits = 0;
            for (int i = 0; i < n; i++) {
                int club = clubAt(row, i);
                if (club >= CLUBS || (bits >> club & 1) == 1) {
                    return false;
                }
                bits |= 1 << club;
            }
            rowBits[j] = bits;
            for (int i = 0; i < n; i++) {
                rankIn[j][clubAt(row, i)] = i + 1;
            }
            return true;
        }

        private static int clubAt(long row, int i) {
            return (int) (row >>> (4 * i)) & 15;
        }

        boolean isSinging(int club) {
            return isWithin(club, 0, CLUBS - 1) && (singing >> club & 1) == 1;
        }

        private boolean isCounting(int j) {
            return singing != 0 && rowBits[j] == singing;
        }

        int countJudges() {
            int count = 0;
            for (int j = 0; j < JUDGES; j++) {
                if (isCounting(j)) {
                    count++;
                }
            }
            return count;
        }

        int countRanks(int club, int k) {
            int count = 0;
            for (int j = 0; j < JUDGES; j++) {
                if (isCounting(j) && rankIn[j][club] <= k) {
                    count++;
                }
            }
            return count;
        }

        private int sumRanks(int club, int k) {
            int sum = 0;
            for (int j = 0; j < JUDGES; j++) {
                if (isCounting(j) && rankIn[j][club] <= k) {
                    sum += rankIn[j][club];
                }
            }
            return sum;
        }

        /** A place is one more than how many clubs are ahead, so clubs that are alike share it. */
        int findPlace(int club) {
            int half = findGreaterHalf(club);
            int ahead = 0;
            for (int other = 0; other < CLUBS; other++) {
                if (isSinging(other) && isAhead(other, club, half)) {
                    ahead++;
                }
            }
            return ahead + 1;
        }

        /** The first rank at which a club has the GREATER HALF. */
        private int findGreaterHalf(int club) {
            int judgeCount = countJudges();
            int k = 1;
            while (k < CLUBS && 2 * countRanks(club, k) <= judgeCount) {
                k++;
            }
            return k;
        }

        private boolean isAhead(int other, int club, int half) {
            int otherHalf = findGreaterHalf(other);
            if (otherHalf != half) {
                return otherHalf < half;
            }
            for (int k = half; k <= CLUBS; k++) {
                int more = countRanks(other, k) - countRanks(club, k);
                if (more != 0) {
                    return more > 0;
                }
                int lesser = sumRanks(club, k) - sumRanks(other, k);
                if (lesser != 0) {
                    return lesser > 0;
                }
            }
            return false;
        }
    }

    /** The spans of persons in clubs. */
    private static final class Roll {
        private final int[] persons = new int[SPANS];
        private final int[] clubs = new int[SPANS];
        private final int[] starts = new int[SPANS];
        private final int[] ends = new int[SPANS];
        int size = 0;

        int addSpan(int person, int club, int from, int to) {
            persons[size] = person;
            clubs[size] = club;
            starts[size] = from;
            ends[size] = to;
            size++;
            return size;
        }

        int findSingers(int club, int day) {
            int bits = 0;
            for (int i = 0; i < size; i++) {
                if (clubs[i] == club && isWithin(day, starts[i], ends[i])) {
                    bits |= 1 << persons[i];
                }
            }
            return bits;
        }
    }

    /** The performances, and THE HOURS that were found last. */
    private static final class Timetable {
        final int[] hourOf = new int[PERFORMANCES];
        int size = 0;
        int hallCount = 2;
        // How many performances THE HOURS found last are for.
        int stood = 0;

        private final int[] clubs = new int[PERFORMANCES];
        private final int[] singersOf = new int[PERFORMANCES];
        // As bits: the performances that can't share an hour with each, and those in each hour.
        private final int[] clashes = new int[PERFORMANCES];
        private final int[] inHour = new int[PERFORMANCES];

        int addPerformance(int club) {
            clubs[size] = club;
            size++;
            return size - 1;
        }

        int findHours(Roll roll, int day) {
            findClashes(roll, day);
            stood = size;
            for (int most = countNeeded(); most < size; most++) {
                if (most * hallCount >= size && standsFrom(0, 0, most)) {
                    return most;
                }
            }
            standsFrom(0, 0, size);
            return size;
        }

        /** Performances that clash each with each need as many hours: fewer need not be searched. */
        private int countNeeded() {
            int needed = 0;
            for (int i = 0; i < size; i++) {
                int clashing = 1 << i;
                for (int other = 0; other < size; other++) {
                    if ((clashing & ~clashes[other]) == 0) {
                        clashing |= 1 << other;
                    }
                }
                needed = Math.max(needed, Integer.bitCount(clashing));
            }
            return needed;
        }

        private void findClashes(Roll roll, int day) {
            for (int i = 0; i < size; i++) {
                singersOf[i] = roll.findSingers(clubs[i], day);
                clashes[i] = 0;
                inHour[i] = 0;
                for (int other = 0; other < i; other++) {
                    if (clubs[other] == clubs[i] || (singersOf[other] & singersOf[i]) != 0) {
                        clashes[i] |= 1 << other;
                        clashes[other] |= 1 << i;
                    }
                }
            }
        }

        /**
         * Whether the performances from i on find an hour below most, each the least that lets the later
         * ones stand. Of the hours that are still empty only the first is tried: all of them are alike.
         */
        private boolean standsFrom(int i, int open, int most) {
            if (i >= size) {
                return true;
            }
            for (int h = 0; h <= open && h < most; h++) {
                if ((inHour[h] & clashes[i]) == 0 && Integer.bitCount(inHour[h]) < hallCount) {
                    inHour[h] |= 1 << i;
                    hourOf[i] = h;
                    if (standsFrom(i + 1, Math.max(open, h + 1), most)) {
                        return true;
                    }
                    inHour[h] ^= 1 << i;
                }
            }
            return false;
        }
    }
}
