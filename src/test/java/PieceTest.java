/** Promises 2 to 5: note, record, read, rules. */
public final class PieceTest {
    private static final int MAX = Integer.MAX_VALUE;
    private static final int MIN = Integer.MIN_VALUE;

    public static void main(String[] args) {
        Check check = new Check();
        notes(check);
        records(check);
        reads(check);
        rules(check);
        rulesTakeEffect(check);
        check.end();
    }

    private static void notes(Check check) {
        GleePrize x = new GleePrize();
        int[][] wrong = {{-1, 0, 1}, {6, 0, 1}, {MAX, 0, 1}, {MIN, 0, 1}, {0, -1, 1}, {0, 4801, 1}, {0, MAX, 1},
            {0, MIN, 1}, {0, 0, 0}, {0, 0, 9}, {0, 0, -1}, {0, 0, MAX}, {0, 0, MIN}};
        for (int[] w : wrong) {
            check.due("note of " + w[0] + " " + w[1] + " " + w[2], x.note(w[0], w[1], w[2]), -1);
        }
        check.due("note(0, 0, 1)", x.note(0, 0, 1), 1);
        check.due("note(5, 4800, 8)", x.note(5, 4800, 8), 1);
        for (int i = 2; i <= 24; i++) {
            check.due("note " + i, x.note(5, 4800, 8), i);
        }
        check.due("the 25th note", x.note(5, 4800, 8), -1);
        check.due("the 25th note stays away", x.laid(record5(x), 24, 1), -2);
        check.due("24 notes", x.laid(0, 23, 1), 0);
        check.due("another piece has room", x.note(0, 1, 1), 2);
    }

    private static int record5(GleePrize x) {
        x.record(0, 5);
        return 0;
    }

    private static void records(Check check) {
        GleePrize x = new GleePrize();
        int[][] wrong = {{-1, 0}, {10, 0}, {MAX, 0}, {MIN, 0}, {0, -1}, {0, 6}, {0, MAX}, {0, MIN}};
        x.note(0, 100, 1);
        x.note(5, 900, 1);
        x.read(0, 100, 2);
        x.read(9, 900, 7);
        for (int[] w : wrong) {
            check.due("record of " + w[0] + " " + w[1], x.record(w[0], w[1]), -1);
        }
        check.due("a refused record changes nothing", x.lay(0), 0);
        check.due("record(9, 5)", x.record(9, 5), 7);
        check.due("record(9, 5) again", x.record(9, 5), 0);
        check.due("read anew", x.read(9, 900, 2), 2);
        check.due("laid along the other piece", x.lay(9), 0);
        check.due("record(0, 5)", x.record(0, 5), 2);
        check.due("without readings", x.lay(0), 460);
    }

    private static void reads(Check check) {
        GleePrize x = new GleePrize();
        int[][] wrong = {{-1, 0, 1}, {10, 0, 1}, {MAX, 0, 1}, {MIN, 0, 1}, {0, -2, 1}, {0, 4801, 1}, {0, MAX, 1},
            {0, MIN, 1}, {0, 0, 0}, {0, 0, 61}, {0, 0, -1}, {0, 0, MAX}, {0, 0, MIN}};
        for (int[] w : wrong) {
            check.due("read of " + w[0] + " " + w[1] + " " + w[2], x.read(w[0], w[1], w[2]), -1);
        }
        check.due("read(9, 4800, 1)", x.read(9, 4800, 1), 1);
        check.due("read(9, 0, 1)", x.read(9, 0, 1), 2);
        check.due("read(9, NONE, 60)", x.read(9, GleePrize.NONE, 60), 62);
        check.due("read of one too many", x.read(9, 5, 59), -1);
        check.due("read up to 120", x.read(9, 5, 58), 120);
        check.due("read of the 121st", x.read(9, 5, 1), -1);
        check.due("others have room", x.read(0, 5, 60), 60);
        check.due("record(9, 0)", x.record(9, 0), 120);
    }

    private static void rules(Check check) {
        GleePrize x = new GleePrize();
        x.note(0, 500, 1);
        int[] most = {8, 1000, 1000, 10000, 1000};
        int[] least = {1, 0, 0, 0, 0};
        check.due("the least", set(x, least), true);
        check.due("the most", set(x, most), true);
        int cost = 1000 * 8 + 10000;
        check.due("lay by the most", x.lay(0), cost);
        for (int i = 0; i < 5; i++) {
            int[] wrong = {least[i] - 1, most[i] + 1, MAX, MIN};
            for (int w : wrong) {
                int[] row = least.clone();
                row[i] = w;
                check.due("rule " + i + " of " + w, set(x, row), false);
                check.due("lay after it was refused", x.lay(0), cost);
            }
        }
    }

    private static boolean set(GleePrize x, int[] row) {
        return x.rules(row[0], row[1], row[2], row[3], row[4]);
    }

    private static void rulesTakeEffect(Check check) {
        GleePrize x = new GleePrize();
        x.note(0, 500, 2);
        check.due("no readings at first", x.lay(0), 400 + 4 * 30);
        x.rules(3, 7, 11, 13, 17);
        check.due("no readings", x.lay(0), 13 + 6 * 11);
        x.read(0, -1, 2);
        check.due("two gaps", x.lay(0), 2 * 7 + 4 * 11);
        x.read(0, 527, 2);
        x.read(0, 508, 1);
        x.read(0, 506, 1);
        check.due("six readings", x.lay(0), 2 * 7 + 2 * 27 + 8 + 6);
        check.due("off", x.off(0, 0), 17);
        check.due("off by the ear", x.laid(0, 0, 2), 0);
        x.rules(3, 7, 11, 13, 16);
        check.due("off by more than the ear", x.laid(0, 0, 2), 1);
    }
}
