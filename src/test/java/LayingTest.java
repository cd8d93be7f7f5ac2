import java.util.Random;

/** Promises 6 to 9: lay, laid, off, told. */
public final class LayingTest {
    private static final int NO_OFF = -100000;

    public static void main(String[] args) {
        Check check = new Check();
        wrongInputs(check);
        farReadings(check);
        fewerFirst(check);
        offs(check);
        faults(check);
        changesAreSeen(check);
        largest(check);
        allWays(check);
        check.end();
    }

    private static void wrongInputs(Check check) {
        GleePrize x = new GleePrize();
        x.note(0, 500, 1);
        x.read(0, 500, 2);
        x.record(3, 1);
        x.read(3, 500, 2);
        int[] noSuch = {-1, 10, 3, Integer.MAX_VALUE, Integer.MIN_VALUE};
        for (int r : noSuch) {
            check.due("lay(" + r + ")", x.lay(r), -1);
            check.due("off(" + r + ", 0)", x.off(r, 0), NO_OFF);
            for (int what = 0; what < 3; what++) {
                check.due("laid(" + r + ", 0, " + what + ")", x.laid(r, 0, what), -2);
                check.due("told(" + r + ", " + what + ")", x.told(r, what), NO_OFF);
            }
        }
        int[] noNote = {-1, 1, 24, 25, Integer.MAX_VALUE, Integer.MIN_VALUE};
        for (int k : noNote) {
            check.due("laid(0, " + k + ", 0)", x.laid(0, k, 0), -2);
            check.due("off(0, " + k + ")", x.off(0, k), NO_OFF);
        }
        int[] noWhat = {-1, 3, 2147483647, Integer.MIN_VALUE};
        for (int what : noWhat) {
            check.due("laid(0, 0, " + what + ")", x.laid(0, 0, what), -2);
            check.due("told(0, " + what + ")", x.told(0, what), NO_OFF);
        }
        check.due("told(0, 2)", x.told(0, 2), NO_OFF);
        check.due("laid(0, 0, 0)", x.laid(0, 0, 0), 0);
        check.due("lay(0)", x.lay(0), 0);
    }

    private static void farReadings(Check check) {
        GleePrize x = new GleePrize();
        x.note(0, 1000, 1);
        x.read(0, 1299, 2);
        check.due("299 apart", x.lay(0), 598);
        x.read(1, 700, 2);
        check.due("300 apart", x.lay(1), 600);
        x.read(2, 4800, 2);
        check.due("3800 apart", x.lay(2), 600);
        check.due("off goes beyond 300", x.off(2, 0), 3800);
        x.read(3, 0, 2);
        check.due("off below", x.off(3, 0), -1000);
    }

    private static void fewerFirst(Check check) {
        GleePrize x = new GleePrize();
        x.note(0, 1000, 1);
        x.note(0, 1000, 1);
        x.note(0, 1000, 1);
        x.read(0, 1000, 5);
        // One reading too few: it lacks in any of the three at the same cost.
        check.due("cost of one too few", x.lay(0), 30);
        check.due("first takes", x.laid(0, 0, 1), 1);
        check.due("second takes", x.laid(0, 1, 1), 2);
        check.due("third takes", x.laid(0, 2, 1), 2);
        check.due("second begins", x.laid(0, 1, 0), 1);
        check.due("third begins", x.laid(0, 2, 0), 3);
        x.rules(2, 20, 0, 0, 40);
        // Nothing costs: the last note takes all.
        check.due("nothing costs", x.lay(0), 0);
        check.due("first takes none", x.laid(0, 0, 1), 0);
        check.due("first begins nowhere", x.laid(0, 0, 0), -1);
        check.due("second takes none", x.laid(0, 1, 1), 0);
        check.due("third takes all", x.laid(0, 2, 1), 5);
        check.due("third begins at 0", x.laid(0, 2, 0), 0);
        check.due("two faults", x.told(0, 1), 2);
    }

    private static void offs(Check check) {
        GleePrize x = new GleePrize();
        x.note(0, 1000, 2);
        x.read(0, 999, 1);
        x.read(0, 1000, 3);
        check.due("-1 by 4", x.off(0, 0), -1);
        x.read(1, 1001, 3);
        x.read(1, 1000, 1);
        check.due("3 by 4", x.off(1, 0), 0);
        x.read(2, 990, 2);
        x.read(2, -1, 2);
        check.due("gaps do not count", x.off(2, 0), -10);
        x.read(3, 998, 1);
        x.read(3, 999, 1);
        x.read(3, 996, 1);
        check.due("-7 by 3", x.off(3, 0), -3);
        x.read(4, -1, 4);
        check.due("gaps alone", x.off(4, 0), NO_OFF);
        check.due("gaps alone are no fault", x.laid(4, 0, 2), 0);
        check.due("gaps alone are taken", x.laid(4, 0, 1), 4);
        check.due("gaps alone sink not", x.told(4, 0), 0);
        check.due("no readings", x.off(5, 0), NO_OFF);
        check.due("no readings are a fault", x.laid(5, 0, 2), 1);
        check.due("no readings sink not", x.told(5, 0), 0);
        check.due("no readings: faults", x.told(5, 1), 1);
    }

    // Pitches far apart and a high lack keep each note at its readings.
    private static void faults(Check check) {
        GleePrize x = new GleePrize();
        for (int k = 0; k < 5; k++) {
            x.note(0, 600 * (k + 1), 1);
        }
        x.read(0, -1, 2);
        x.read(0, 1200 + 40, 2);
        x.read(0, -1, 2);
        x.read(0, 2400 - 1, 2);
        x.read(0, 3000 - 1, 2);
        int[] faults = {0, 0, 0, 1, 0};
        int[] offs = {NO_OFF, 40, NO_OFF, -1, -1};
        for (int k = 0; k < 5; k++) {
            check.due("fault of " + k, x.laid(0, k, 2), faults[k]);
            check.due("off of " + k, x.off(0, k), offs[k]);
        }
        check.due("faults", x.told(0, 1), 1);
        check.due("sunk", x.told(0, 0), 41);
        x.rules(2, 20, 30, 400, 41);
        check.due("no fault with a duller ear", x.told(0, 1), 0);
        x.rules(2, 20, 30, 400, 39);
        check.due("the first is heard against 0", x.laid(0, 1, 2), 1);
        check.due("two faults with a finer ear", x.told(0, 1), 2);
        x.read(1, 600, 2);
        x.read(1, 1210, 2);
        x.read(1, 1820, 2);
        x.read(1, 2430, 2);
        x.read(1, 3060, 2);
        check.due("it rises", x.told(1, 0), -60);
        x.rules(2, 20, 30, 400, 10);
        check.due("each is heard against the one ahead", x.told(1, 1), 1);
    }

    // A laying that was found must not outlive what it was found from.
    private static void changesAreSeen(Check check) {
        GleePrize x = new GleePrize();
        x.note(0, 1000, 1);
        x.note(1, 1300, 1);
        x.read(0, 1000, 2);
        x.read(1, 1010, 2);
        check.due("first", x.lay(0), 0);
        check.due("another recording", x.lay(1), 20);
        check.due("first again", x.off(0, 0), 0);
        x.read(0, 1010, 1);
        check.due("a reading more", x.lay(0), 40);
        x.note(0, 1010, 1);
        check.due("a note more", x.lay(0), 30);
        check.due("its note", x.laid(0, 1, 1), 1);
        x.rules(1, 20, 30, 400, 40);
        check.due("another tempo", x.lay(0), 30);
        check.due("refused", x.rules(0, 0, 0, 0, 0), false);
        check.due("and nothing changes", x.lay(0), 30);
        x.record(0, 1);
        check.due("without readings", x.lay(0), 430);
        x.read(0, 1290, 1);
        check.due("another piece", x.lay(0), 10);
        x.record(0, 0);
        check.due("the first piece again", x.lay(0), 860);
        x.record(0, 2);
        check.due("a piece without notes", x.lay(0), -1);
    }

    private static void largest(Check check) {
        GleePrize x = new GleePrize();
        for (int k = 0; k < 24; k++) {
            x.note(0, 4800, 8);
        }
        x.rules(8, 1000, 1000, 10000, 0);
        check.due("all notes lack", x.lay(0), 24 * (64 * 1000 + 10000));
        x.read(0, -1, 60);
        x.read(0, 0, 60);
        check.due("120 readings", x.lay(0), 24 * 64 * 1000 - 120 * 1000 + 60 * 1000 + 60 * 300);
        check.due("each takes one at least", x.laid(0, 0, 1), 1);
        check.due("the last one begins", x.laid(0, 23, 0), 120 - x.laid(0, 23, 1));
        check.due("the lowest off", x.off(0, 23), -4800);
    }

    /** Every way to lay small recordings, in the order of fewer readings first. */
    private static void allWays(Check check) {
        Random random = new Random(7);
        for (int run = 0; run < 400; run++) {
            GleePrize x = new GleePrize();
            PlainDesk plain = new PlainDesk();
            int notes = 1 + random.nextInt(4);
            for (int k = 0; k < notes; k++) {
                int pitch = 1000 + 10 * random.nextInt(6);
                int beats = 1 + random.nextInt(3);
                x.note(0, pitch, beats);
                plain.note(0, pitch, beats);
            }
            int readings = random.nextInt(10);
            for (int i = 0; i < readings; i++) {
                int pitch = random.nextInt(4) == 0 ? -1 : 1000 + 10 * random.nextInt(6);
                x.read(0, pitch, 1);
                plain.read(0, pitch, 1);
            }
            int stretch = 10 * random.nextInt(4);
            int lack = 10 * random.nextInt(6);
            int tempo = 1 + random.nextInt(3);
            x.rules(tempo, 10, stretch, lack, 10);
            plain.rules(tempo, 10, stretch, lack, 10);
            int[] best = bestWay(plain, new int[notes], 0, readings, null);
            check.due("run " + run + " lay", x.lay(0), plain.cost(0, best));
            for (int k = 0; k < notes; k++) {
                check.due("run " + run + " laid " + k, x.laid(0, k, 1), best[k]);
            }
        }
    }

    private static int[] bestWay(PlainDesk plain, int[] many, int k, int left, int[] bestSoFar) {
        if (k == many.length - 1) {
            many[k] = left;
            boolean better = bestSoFar == null || plain.cost(0, many) < plain.cost(0, bestSoFar);
            return better ? many.clone() : bestSoFar;
        }
        int[] best = bestSoFar;
        for (int taken = 0; taken <= left; taken++) {
            many[k] = taken;
            best = bestWay(plain, many, k + 1, left - taken, best);
        }
        return best;
    }
}
