import java.util.Random;

/** Promises 1 to 23 together: runs of 512 random calls must answer as the plain desk does, and never throw. */
public final class RandomRunsTest {
    private static final int CALLS = 512;
    private static final int[] ODD = {-1, -2, 0, 1, 9, 10, 12, 24, 30, 61, 1000, 1001, 4801,
        Integer.MAX_VALUE, Integer.MIN_VALUE};

    private final Random random;
    private final Check check;
    private final GleePrize x = new GleePrize();
    private final PlainDesk plain = new PlainDesk();
    private final int from;
    private final int to;
    private final boolean wild;

    private RandomRunsTest(Check check, long seed, int from, int to, boolean wild) {
        this.check = check;
        this.random = new Random(seed);
        this.from = from;
        this.to = to;
        this.wild = wild;
    }

    public static void main(String[] args) {
        Check check = new Check();
        for (int seed = 0; seed < 60; seed++) {
            new RandomRunsTest(check, seed, 1, 22, false).run();
            new RandomRunsTest(check, seed, 1, 8, false).run();
            new RandomRunsTest(check, seed, 9, 13, false).run();
            new RandomRunsTest(check, seed, 14, 21, false).run();
            new RandomRunsTest(check, seed, 1, 22, true).run();
        }
        check.end();
    }

    private void run() {
        for (int i = 0; i < CALLS; i++) {
            int method = from + random.nextInt(to - from + 1);
            if (method <= 8) {
                callOfLayings(method);
            } else if (method <= 13) {
                callOfJudges(method);
            } else {
                callOfMembers(method);
            }
        }
    }

    /** A number from least to most; now and then one beside them. */
    private int some(int least, int most) {
        if (random.nextInt(wild ? 2 : 40) == 0) {
            return random.nextBoolean() ? ODD[random.nextInt(ODD.length)] : most + 1;
        }
        return least + random.nextInt(most - least + 1);
    }

    private void due(String name, long got, long want, Object... arguments) {
        StringBuilder call = new StringBuilder(name);
        for (Object argument : arguments) {
            call.append(' ').append(argument);
        }
        check.due(call.toString(), got, want);
    }

    // Few pieces and recordings, and pitches near to one another, so that layings are often alike.
    private void callOfLayings(int method) {
        int r = some(0, 2);
        int k = some(0, random.nextBoolean() ? 8 : 23);
        int what = some(0, 2);
        int pitch = random.nextInt(3) == 0 ? some(0, 4800) : 1000 + 20 * random.nextInt(30);
        if (method == 1) {
            int piece = some(0, 1);
            int beats = some(1, random.nextBoolean() ? 3 : 8);
            due("note", x.note(piece, pitch, beats), plain.note(piece, pitch, beats), piece, pitch, beats);
        } else if (method == 2 && random.nextInt(5) == 0) {
            int piece = some(0, 2);
            due("record", x.record(r, piece), plain.record(r, piece), r, piece);
        } else if (method == 3) {
            int n = some(1, random.nextInt(10) == 0 ? 60 : 6);
            int read = random.nextInt(4) == 0 ? -1 : pitch;
            due("read", x.read(r, read, n), plain.read(r, read, n), r, read, n);
        } else if (method == 4 && random.nextInt(3) == 0) {
            callOfRules();
        } else if (method == 5) {
            due("lay", x.lay(r), plain.lay(r), r);
        } else if (method == 6) {
            due("laid", x.laid(r, k, what), plain.laid(r, k, what), r, k, what);
        } else if (method == 7) {
            due("off", x.off(r, k), plain.off(r, k), r, k);
        } else if (method == 8) {
            due("told", x.told(r, what), plain.told(r, what), r, what);
        }
    }

    private void callOfRules() {
        int tempo = some(1, random.nextBoolean() ? 3 : 8);
        int hole = some(0, random.nextBoolean() ? 60 : 1000);
        int stretch = some(0, random.nextBoolean() ? 60 : 1000);
        int lack = some(0, random.nextBoolean() ? 100 : 10000);
        int ear = some(0, random.nextBoolean() ? 60 : 1000);
        due("rules", x.rules(tempo, hole, stretch, lack, ear) ? 1 : 0,
                plain.rules(tempo, hole, stretch, lack, ear) ? 1 : 0, tempo, hole, stretch, lack, ear);
    }

    private void callOfJudges(int method) {
        int club = some(0, 9);
        int k = some(1, 10);
        if (method == 9 && random.nextInt(20) == 0) {
            int bits = random.nextBoolean() ? (1 << random.nextInt(11)) - 1 : some(1, 1023);
            due("sing", x.sing(bits), plain.sing(bits), bits);
        } else if (method == 10) {
            int j = some(0, 8);
            int n = random.nextInt(4) == 0 ? some(0, 10) : 3 + random.nextInt(2);
            long row = random.nextInt(8) == 0 ? random.nextLong() : randomRow(n);
            due("judge", x.judge(j, n, row) ? 1 : 0, plain.judge(j, n, row) ? 1 : 0, j, n, row);
        } else if (method == 11) {
            due("judges", x.judges(), plain.judges());
        } else if (method == 12) {
            due("place", x.place(club), plain.place(club), club);
        } else if (method == 13) {
            due("ranks", x.ranks(club, k), plain.ranks(club, k), club, k);
        }
    }

    /** A row of the first n clubs, the bits above them being anything. */
    private long randomRow(int n) {
        int length = Math.max(0, Math.min(10, n));
        long row = random.nextLong();
        int left = (1 << length) - 1;
        for (int i = 0; i < length; i++) {
            int club = random.nextInt(length);
            while ((left & (1 << club)) == 0) {
                club = (club + 1) % length;
            }
            left &= ~(1 << club);
            row = row & ~(15L << (4 * i)) | (long) club << (4 * i);
        }
        return row;
    }

    private void callOfMembers(int method) {
        int club = some(0, 9);
        int person = some(0, random.nextBoolean() ? 5 : 29);
        int day = some(0, 1000);
        if (method == 14) {
            int to = random.nextBoolean() ? some(0, 1000) : 1000;
            due("member", x.member(person, club, day, to), plain.member(person, club, day, to), person, club, day, to);
        } else if (method == 15) {
            due("may", x.may(person, club, day), plain.may(person, club, day), person, club, day);
        } else if (method == 16) {
            due("singers", x.singers(club, day), plain.singers(club, day), club, day);
        } else if (method == 17) {
            due("perform", x.perform(club), plain.perform(club), club);
        } else if (method == 18 && random.nextInt(12) == 0) {
            due("clear", x.clear(), plain.clear());
        } else if (method == 19) {
            int n = some(1, 4);
            due("halls", x.halls(n), plain.halls(n), n);
        } else if (method == 20 && random.nextInt(4) == 0) {
            due("hours", x.hours(day), plain.hours(day), day);
            for (int i = 0; i < 12; i++) {
                due("hour", x.hour(i), plain.hour(i), i);
            }
        } else if (method == 21) {
            int i = some(0, 11);
            due("hour", x.hour(i), plain.hour(i), i);
        } else if (method == 22) {
            int n = some(1, 12);
            int i = some(0, 11);
            int seed = random.nextInt();
            due("draw", x.draw(n, seed, i), plain.draw(n, seed, i), n, seed, i);
        }
    }
}
