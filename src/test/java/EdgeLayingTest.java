/** The boundary cases of promises 6 to 9: lay, laid, off, told. */
public final class EdgeLayingTest {
    private static final int NO_OFF = -100000;
    private static final int GAP = -1;

    public static void main(String[] args) {
        Edges.run(EdgeLayingTest.class, 6, 9);
    }

    /** A desk whose piece 0 has notes of these pitches, one beat each. */
    private static GleePrize deskWithNotes(int... pitches) {
        GleePrize x = new GleePrize();
        for (int pitch : pitches) {
            x.note(0, pitch, 1);
        }
        return x;
    }

    /** Reads each pitch twice, so that at first it fills a note of one beat. */
    private static void readPairs(GleePrize x, int r, int... pitches) {
        for (int pitch : pitches) {
            x.read(r, pitch, 2);
        }
    }

    private static void takes(Check check, GleePrize x, int r, int... many) {
        for (int k = 0; k < many.length; k++) {
            check.due("laid(" + r + ", " + k + ", 1)", x.laid(r, k, 1), many[k]);
        }
    }

    private static void faults(Check check, GleePrize x, int r, int... faults) {
        int sum = 0;
        for (int k = 0; k < faults.length; k++) {
            check.due("laid(" + r + ", " + k + ", 2)", x.laid(r, k, 2), faults[k]);
            sum += faults[k];
        }
        check.due("told(" + r + ", 1)", x.told(r, 1), sum);
    }

    // ---- promise 6: lay

    @Edge(promise = 6, of = "a recording without readings: every note lacks")
    static void layWithoutReadings(Check check) {
        GleePrize x = new GleePrize();
        x.note(0, 100, 1);
        x.note(0, 100, 8);
        check.due("lay(0)", x.lay(0), 2 * 400 + 30 * (2 + 16));
    }

    @Edge(promise = 6, of = "NONE: a piece without notes, without readings and with them")
    static void layWithoutNotes(Check check) {
        GleePrize x = new GleePrize();
        x.note(1, 100, 1);
        check.due("lay(0) without readings", x.lay(0), -1);
        x.read(0, 100, 2);
        check.due("lay(0) with readings", x.lay(0), -1);
    }

    @Edge(promise = 6, of = "the first note makes a laying of readings that were there")
    static void layOnceThereIsANote(Check check) {
        GleePrize x = new GleePrize();
        x.read(0, 100, 2);
        check.due("lay(0)", x.lay(0), -1);
        x.note(0, 100, 1);
        check.due("lay(0) with a note", x.lay(0), 0);
    }

    @Edge(promise = 6, of = "NONE: no such recording")
    static void layOfNoRecording(Check check) {
        GleePrize x = deskWithNotes(100);
        for (int r : Edges.outside(0, 9)) {
            check.due("lay(" + r + ")", x.lay(r), -1);
        }
    }

    @Edge(promise = 6, of = "the first and the last recording")
    static void layOfEndsOfRecordings(Check check) {
        GleePrize x = deskWithNotes(100);
        x.read(0, 101, 2);
        x.read(9, 103, 2);
        check.due("lay(0)", x.lay(0), 2);
        check.due("lay(9)", x.lay(9), 6);
    }

    @Edge(promise = 6, of = "gaps alone cost a hole each")
    static void layOfGaps(Check check) {
        GleePrize x = deskWithNotes(100);
        x.read(0, GAP, 3);
        check.due("lay(0)", x.lay(0), 3 * 20 + 30);
    }

    @Edge(promise = 6, of = "a gap may cost more than the farthest reading")
    static void layOfDearGap(Check check) {
        GleePrize x = deskWithNotes(100);
        x.rules(1, 1000, 0, 0, 0);
        x.read(0, GAP, 1);
        check.due("lay(0)", x.lay(0), 1000);
    }

    @Edge(promise = 6, of = "a reading costs 300 at most, above the note and below")
    static void layOfFarReadings(Check check) {
        int[] apart = {299, 300, 301, 2400};
        int[] cost = {299, 300, 300, 300};
        for (int i = 0; i < apart.length; i++) {
            GleePrize x = deskWithNotes(2400);
            x.read(0, 2400 + apart[i], 2);
            x.read(1, 2400 - apart[i], 2);
            check.due("lay of " + apart[i] + " above", x.lay(0), 2 * cost[i]);
            check.due("lay of " + apart[i] + " below", x.lay(1), 2 * cost[i]);
        }
    }

    @Edge(promise = 6, of = "lack counts for a note without readings alone, not for one with too few")
    static void lackForNoneAlone(Check check) {
        GleePrize x = new GleePrize();
        x.note(0, 100, 8);
        x.rules(8, 0, 1, 10000, 0);
        check.due("lay without readings", x.lay(0), 10000 + 64);
        x.read(0, 100, 1);
        check.due("lay of one", x.lay(0), 63);
    }

    @Edge(promise = 6, of = "all readings are taken, 120 of them by one note")
    static void layOfAllReadings(Check check) {
        GleePrize x = deskWithNotes(0);
        x.rules(1, 0, 0, 0, 0);
        x.read(0, 4800, 60);
        x.read(0, 4800, 60);
        check.due("lay(0)", x.lay(0), 120 * 300);
    }

    @Edge(promise = 6, of = "more notes than readings")
    static void layOfFewReadings(Check check) {
        GleePrize x = deskWithNotes(1000, 1000, 1000);
        x.read(0, 1000, 1);
        check.due("lay(0)", x.lay(0), 30 + 2 * (400 + 60));
    }

    @Edge(promise = 6, of = "as many notes as can be without readings, all rules at their most")
    static void dearestWithoutReadings(Check check) {
        GleePrize x = new GleePrize();
        for (int k = 0; k < 24; k++) {
            x.note(0, 4800, 8);
        }
        x.rules(8, 1000, 1000, 10000, 1000);
        check.due("lay(0)", x.lay(0), 24 * (64 * 1000 + 10000));
    }

    @Edge(promise = 6, of = "as many gaps as can be along one note, all rules at their most but tempo")
    static void dearestGaps(Check check) {
        GleePrize x = deskWithNotes(0);
        x.rules(1, 1000, 1000, 10000, 1000);
        x.read(0, GAP, 60);
        x.read(0, GAP, 60);
        check.due("lay(0)", x.lay(0), 120 * 1000 + 119 * 1000);
    }

    @Edge(promise = 6, of = "a full piece with a full recording")
    static void fullPieceAndRecording(Check check) {
        GleePrize x = new GleePrize();
        x.rules(5, 20, 30, 400, 40);
        for (int k = 0; k < 24; k++) {
            x.note(0, 200 * k, 1);
            x.read(0, 200 * k, 5);
        }
        check.due("lay(0)", x.lay(0), 0);
        check.due("laid(0, 23, 0)", x.laid(0, 23, 0), 115);
    }

    @Edge(promise = 6, of = "nothing costs: 0, not NONE")
    static void layForNothing(Check check) {
        GleePrize x = deskWithNotes(100, 200);
        x.rules(8, 0, 0, 0, 0);
        check.due("lay without readings", x.lay(0), 0);
        x.read(0, GAP, 60);
        check.due("lay of gaps", x.lay(0), 0);
    }

    @Edge(promise = 6, of = "recordings asked for in turn, each has its own laying")
    static void layInTurn(Check check) {
        GleePrize x = deskWithNotes(1000);
        x.note(1, 2000, 1);
        x.record(9, 1);
        x.read(0, 1003, 2);
        x.read(9, 2005, 2);
        for (int turn = 0; turn < 2; turn++) {
            check.due("lay(0)", x.lay(0), 6);
            check.due("lay(9)", x.lay(9), 10);
            check.due("lay(1)", x.lay(1), 460);
            check.due("lay(-1)", x.lay(-1), -1);
            check.due("off(9, 0)", x.off(9, 0), 5);
        }
    }

    // ---- promise 7: laid

    @Edge(promise = 7, of = "a note that got no reading: NONE, 0, a fault")
    static void laidOfNone(Check check) {
        GleePrize x = deskWithNotes(1000, 2000);
        x.rules(2, 20, 30, 0, 40);
        readPairs(x, 0, 2000);
        check.due("laid(0, 0, 0)", x.laid(0, 0, 0), -1);
        check.due("laid(0, 0, 1)", x.laid(0, 0, 1), 0);
        check.due("laid(0, 0, 2)", x.laid(0, 0, 2), 1);
        check.due("laid(0, 1, 0)", x.laid(0, 1, 0), 0);
        check.due("laid(0, 1, 1)", x.laid(0, 1, 1), 2);
        check.due("laid(0, 1, 2)", x.laid(0, 1, 2), 0);
    }

    @Edge(promise = 7, of = "the last note got no reading")
    static void laidOfLastNone(Check check) {
        GleePrize x = deskWithNotes(1000, 2000);
        x.rules(2, 20, 30, 0, 40);
        readPairs(x, 0, 1000);
        check.due("laid(0, 0, 0)", x.laid(0, 0, 0), 0);
        check.due("laid(0, 1, 0)", x.laid(0, 1, 0), -1);
        takes(check, x, 0, 2, 0);
        faults(check, x, 0, 0, 1);
    }

    @Edge(promise = 7, of = "a recording without readings: each note got none")
    static void laidWithoutReadings(Check check) {
        GleePrize x = deskWithNotes(1000, 2000);
        for (int k = 0; k < 2; k++) {
            check.due("laid(0, " + k + ", 0)", x.laid(0, k, 0), -1);
            check.due("laid(0, " + k + ", 1)", x.laid(0, k, 1), 0);
            check.due("laid(0, " + k + ", 2)", x.laid(0, k, 2), 1);
        }
    }

    @Edge(promise = 7, of = "-2: a piece without notes")
    static void laidWithoutNotes(Check check) {
        GleePrize x = new GleePrize();
        x.read(0, 100, 2);
        for (int what = 0; what <= 2; what++) {
            check.due("laid(0, 0, " + what + ")", x.laid(0, 0, what), -2);
        }
    }

    @Edge(promise = 7, of = "-2: no such recording")
    static void laidOfNoRecording(Check check) {
        GleePrize x = deskWithNotes(1000);
        for (int r : Edges.outside(0, 9)) {
            for (int what = 0; what <= 2; what++) {
                check.due("laid(" + r + ", 0, " + what + ")", x.laid(r, 0, what), -2);
            }
        }
    }

    @Edge(promise = 7, of = "-2: no such note; the last one is there")
    static void laidOfNoNote(Check check) {
        GleePrize x = deskWithNotes(1000, 2000);
        for (int k : Edges.outside(0, 1)) {
            for (int what = 0; what <= 2; what++) {
                check.due("laid(0, " + k + ", " + what + ")", x.laid(0, k, what), -2);
            }
        }
        check.due("laid(0, 1, 1)", x.laid(0, 1, 1), 0);
    }

    @Edge(promise = 7, of = "-2: no such note in a full piece; the 24th is there")
    static void laidOfFullPiece(Check check) {
        GleePrize x = new GleePrize();
        for (int k = 0; k < 24; k++) {
            x.note(0, 100, 1);
        }
        check.due("laid(0, 23, 1)", x.laid(0, 23, 1), 0);
        for (int k : Edges.outside(0, 23)) {
            check.due("laid(0, " + k + ", 1)", x.laid(0, k, 1), -2);
        }
    }

    @Edge(promise = 7, of = "-2: a note that another piece has")
    static void laidOfOtherPiece(Check check) {
        GleePrize x = deskWithNotes(1000, 2000);
        x.note(1, 1000, 1);
        x.record(1, 1);
        check.due("laid(0, 1, 1) of the piece with two", x.laid(0, 1, 1), 0);
        check.due("laid(1, 1, 1) of the piece with one", x.laid(1, 1, 1), -2);
    }

    @Edge(promise = 7, of = "-2: what is neither 0, 1 nor 2")
    static void laidOfOthers(Check check) {
        GleePrize x = deskWithNotes(1000);
        x.read(0, 1000, 2);
        for (int what : Edges.outside(0, 2)) {
            check.due("laid(0, 0, " + what + ")", x.laid(0, 0, what), -2);
        }
    }

    @Edge(promise = 7, of = "one note takes all 120 readings")
    static void laidOfAll(Check check) {
        GleePrize x = deskWithNotes(1000);
        x.read(0, 1000, 60);
        x.read(0, GAP, 60);
        check.due("laid(0, 0, 0)", x.laid(0, 0, 0), 0);
        check.due("laid(0, 0, 1)", x.laid(0, 0, 1), 120);
    }

    @Edge(promise = 7, of = "the last reading is the first one of a note")
    static void laidFromLastReading(Check check) {
        GleePrize x = deskWithNotes(0, 1000);
        x.rules(1, 0, 0, 0, 0);
        x.read(0, 0, 60);
        x.read(0, 0, 59);
        x.read(0, 1000, 1);
        takes(check, x, 0, 119, 1);
        check.due("laid(0, 1, 0)", x.laid(0, 1, 0), 119);
    }

    @Edge(promise = 7, of = "gaps ahead of the first pitch and behind the last are taken too")
    static void laidWithGapsAtTheEnds(Check check) {
        GleePrize x = deskWithNotes(1000, 2000);
        x.read(0, GAP, 1);
        x.read(0, 1000, 2);
        x.read(0, 2000, 2);
        x.read(0, GAP, 1);
        takes(check, x, 0, 3, 3);
        check.due("laid(0, 0, 0)", x.laid(0, 0, 0), 0);
        check.due("laid(0, 1, 0)", x.laid(0, 1, 0), 3);
    }

    @Edge(promise = 7, of = "a note with gaps alone has a first reading and is no fault")
    static void laidOfGaps(Check check) {
        GleePrize x = deskWithNotes(1000, 2000);
        readPairs(x, 0, 1000, GAP);
        check.due("laid(0, 1, 0)", x.laid(0, 1, 0), 2);
        check.due("laid(0, 1, 1)", x.laid(0, 1, 1), 2);
        check.due("laid(0, 1, 2)", x.laid(0, 1, 2), 0);
    }

    // With one reading too few or too many, each of three like notes could have it at the same cost.
    @Edge(promise = 7, of = "of several the one with fewer readings in the first note")
    static void fewerInFirst(Check check) {
        GleePrize x = deskWithNotes(1000, 1000, 1000);
        x.read(0, 1000, 5);
        takes(check, x, 0, 1, 2, 2);
        x.read(1, 1000, 7);
        takes(check, x, 1, 2, 2, 3);
    }

    @Edge(promise = 7, of = "of several with like first notes the one with fewer in the next")
    static void fewerInSecond(Check check) {
        GleePrize x = deskWithNotes(0, 1000, 1000);
        x.read(0, 0, 2);
        x.read(0, 1000, 3);
        takes(check, x, 0, 2, 1, 2);
    }

    // Note 0 without readings costs 60 and lack, with one it costs 300 + 30 + 30.
    @Edge(promise = 7, of = "a note takes none where that costs as much, and one where it costs more")
    static void noneAtTheSameCost(Check check) {
        int[] lacks = {299, 300, 301};
        int[] cost = {359, 360, 360};
        int[] taken = {0, 0, 1};
        for (int i = 0; i < lacks.length; i++) {
            GleePrize x = deskWithNotes(1000, 2000);
            x.rules(2, 20, 30, lacks[i], 40);
            x.read(0, 2000, 2);
            check.due("lay(0) with lack " + lacks[i], x.lay(0), cost[i]);
            takes(check, x, 0, taken[i], 2 - taken[i]);
        }
    }

    @Edge(promise = 7, of = "where nothing costs the last note takes all")
    static void lastTakesAll(Check check) {
        GleePrize x = deskWithNotes(1000, 1000, 1000);
        x.rules(1, 0, 0, 0, 0);
        x.read(0, GAP, 60);
        x.read(0, 1000, 60);
        takes(check, x, 0, 0, 0, 120);
    }

    @Edge(promise = 7, of = "more notes than readings: the first notes take none")
    static void laidOfFewReadings(Check check) {
        GleePrize x = deskWithNotes(1000, 1000, 1000);
        x.read(0, 1000, 1);
        takes(check, x, 0, 0, 0, 1);
    }

    // ---- promise 8: off

    private static int offOf(int... readings) {
        GleePrize x = deskWithNotes(1000);
        for (int reading : readings) {
            x.read(0, reading, 1);
        }
        return x.off(0, 0);
    }

    @Edge(promise = 8, of = "the greatest whole number not above, below zero")
    static void offRoundedBelowZero(Check check) {
        check.due("-1 by 2", offOf(999, 1000), -1);
        check.due("-1 by 3", offOf(1000, 999, 1000), -1);
        check.due("-7 by 3", offOf(998, 999, 996), -3);
        check.due("-8 by 3", offOf(998, 998, 996), -3);
        check.due("-6 by 3", offOf(999, 999, 996), -2);
    }

    @Edge(promise = 8, of = "the greatest whole number not above, above zero")
    static void offRoundedAboveZero(Check check) {
        check.due("1 by 2", offOf(1001, 1000), 0);
        check.due("2 by 3", offOf(1001, 1001, 1000), 0);
        check.due("5 by 3", offOf(1002, 1002, 1001), 1);
        check.due("6 by 3", offOf(1002, 1002, 1002), 2);
    }

    @Edge(promise = 8, of = "an off of 0 is not none")
    static void offOfZero(Check check) {
        check.due("just right", offOf(1000, 1000), 0);
        check.due("as much above as below", offOf(990, 1010), 0);
    }

    @Edge(promise = 8, of = "gaps do not count, however many")
    static void offWithGaps(Check check) {
        check.due("one reading and gaps", offOf(GAP, GAP, 990, GAP), -10);
        check.due("two readings and gaps", offOf(GAP, 991, GAP, 992), -9);
    }

    @Edge(promise = 8, of = "-100000: gaps alone")
    static void offOfGaps(Check check) {
        check.due("one gap", offOf(GAP), NO_OFF);
        check.due("four gaps", offOf(GAP, GAP, GAP, GAP), NO_OFF);
    }

    @Edge(promise = 8, of = "-100000: a note without readings")
    static void offOfNone(Check check) {
        GleePrize x = deskWithNotes(1000, 2000);
        x.rules(2, 20, 30, 0, 40);
        readPairs(x, 0, 2005);
        check.due("off(0, 0)", x.off(0, 0), NO_OFF);
        check.due("off(0, 1)", x.off(0, 1), 5);
    }

    @Edge(promise = 8, of = "-100000: a recording without readings")
    static void offWithoutReadings(Check check) {
        GleePrize x = deskWithNotes(1000, 2000);
        check.due("off(0, 0)", x.off(0, 0), NO_OFF);
        check.due("off(0, 1)", x.off(0, 1), NO_OFF);
    }

    @Edge(promise = 8, of = "-100000: a piece without notes")
    static void offWithoutNotes(Check check) {
        GleePrize x = new GleePrize();
        x.read(0, 1000, 2);
        check.due("off(0, 0)", x.off(0, 0), NO_OFF);
    }

    @Edge(promise = 8, of = "-100000: no such recording")
    static void offOfNoRecording(Check check) {
        GleePrize x = deskWithNotes(1000);
        for (int r = 0; r < 10; r++) {
            x.read(r, 1000, 2);
        }
        for (int r : Edges.outside(0, 9)) {
            check.due("off(" + r + ", 0)", x.off(r, 0), NO_OFF);
        }
        check.due("off(9, 0)", x.off(9, 0), 0);
    }

    @Edge(promise = 8, of = "-100000: no such note; the last one is there")
    static void offOfNoNote(Check check) {
        GleePrize x = deskWithNotes(1000, 2000);
        readPairs(x, 0, 1000, 2003);
        for (int k : Edges.outside(0, 1)) {
            check.due("off(0, " + k + ")", x.off(0, k), NO_OFF);
        }
        check.due("off(0, 1)", x.off(0, 1), 3);
    }

    @Edge(promise = 8, of = "-100000: no such note in a full piece; the 24th is there")
    static void offOfFullPiece(Check check) {
        GleePrize x = new GleePrize();
        for (int k = 0; k < 24; k++) {
            x.note(0, 200 * k, 1);
            x.read(0, 200 * k + 7, 2);
        }
        check.due("off(0, 23)", x.off(0, 23), 7);
        for (int k : Edges.outside(0, 23)) {
            check.due("off(0, " + k + ")", x.off(0, k), NO_OFF);
        }
    }

    @Edge(promise = 8, of = "as far off as can be: it goes beyond the 300 of the cost")
    static void offAtItsEnds(Check check) {
        GleePrize high = deskWithNotes(0);
        high.read(0, 4800, 60);
        high.read(0, 4800, 60);
        check.due("off above", high.off(0, 0), 4800);
        GleePrize low = deskWithNotes(4800);
        low.read(0, 0, 60);
        low.read(0, 0, 60);
        check.due("off below", low.off(0, 0), -4800);
    }

    // ---- promise 9: told

    @Edge(promise = 9, of = "sunk is 0 if no note has an off: no readings")
    static void sunkWithoutReadings(Check check) {
        GleePrize x = deskWithNotes(600, 1200);
        check.due("told(0, 0)", x.told(0, 0), 0);
        check.due("told(0, 1)", x.told(0, 1), 2);
    }

    @Edge(promise = 9, of = "sunk is 0 if no note has an off: gaps alone; none of them is a fault")
    static void sunkOfGaps(Check check) {
        GleePrize x = deskWithNotes(600, 1200);
        readPairs(x, 0, GAP, GAP);
        check.due("told(0, 0)", x.told(0, 0), 0);
        check.due("told(0, 1)", x.told(0, 1), 0);
    }

    @Edge(promise = 9, of = "sunk is 0 if one note alone has an off")
    static void sunkOfOne(Check check) {
        GleePrize x = deskWithNotes(600, 1200, 1800);
        readPairs(x, 0, GAP, 1230, GAP);
        check.due("off(0, 1)", x.off(0, 1), 30);
        check.due("told(0, 0)", x.told(0, 0), 0);
    }

    @Edge(promise = 9, of = "sunk is above 0 where it sank and below where it rose")
    static void sunkAndRisen(Check check) {
        GleePrize x = deskWithNotes(600, 1200, 1800);
        readPairs(x, 0, 610, 1200, 1790);
        check.due("told(0, 0) sunk", x.told(0, 0), 20);
        readPairs(x, 1, 590, 1200, 1810);
        check.due("told(1, 0) risen", x.told(1, 0), -20);
    }

    @Edge(promise = 9, of = "sunk looks at the first and the last note that have an off, past gaps")
    static void sunkPastGaps(Check check) {
        GleePrize x = deskWithNotes(600, 1200, 1800, 2400);
        readPairs(x, 0, GAP, 1211, 1790, GAP);
        check.due("told(0, 0)", x.told(0, 0), 21);
    }

    @Edge(promise = 9, of = "sunk looks at the first and the last note that have an off, past notes without readings")
    static void sunkPastNone(Check check) {
        GleePrize x = deskWithNotes(600, 1200, 1800, 2400);
        x.rules(2, 20, 30, 0, 40);
        readPairs(x, 0, 1211, 1790);
        takes(check, x, 0, 0, 2, 2, 0);
        check.due("told(0, 0)", x.told(0, 0), 21);
    }

    @Edge(promise = 9, of = "a fault differs by more than the ear, not by as much: the first off, from 0")
    static void faultOfFirst(Check check) {
        int[] offs = {40, 41, -40, -41};
        int[] fault = {0, 1, 0, 1};
        for (int i = 0; i < offs.length; i++) {
            GleePrize x = deskWithNotes(600, 1200);
            readPairs(x, 0, 600 + offs[i], 1200 + offs[i]);
            faults(check, x, 0, fault[i], 0);
        }
    }

    @Edge(promise = 9, of = "a fault differs by more than the ear, not by as much: a later off, from the one ahead")
    static void faultOfLater(Check check) {
        int[] steps = {40, 41, -40, -41};
        int[] fault = {0, 1, 0, 1};
        for (int i = 0; i < steps.length; i++) {
            GleePrize x = deskWithNotes(600, 1200);
            int first = steps[i] > 0 ? 20 : -20;
            readPairs(x, 0, 600 + first, 1200 + first + steps[i]);
            faults(check, x, 0, 0, fault[i]);
        }
    }

    @Edge(promise = 9, of = "an off that goes on from the one ahead is no fault, though it is far from 0")
    static void noFaultByDrift(Check check) {
        GleePrize x = deskWithNotes(600, 1200, 1800);
        readPairs(x, 0, 640, 1280, 1920);
        faults(check, x, 0, 0, 0, 0);
        readPairs(x, 1, 640, 1280, 1800);
        faults(check, x, 1, 0, 0, 1);
    }

    @Edge(promise = 9, of = "the first note that has an off is heard from 0, past gaps and a note without readings")
    static void faultOfFirstBehindNone(Check check) {
        GleePrize gaps = deskWithNotes(600, 1200);
        readPairs(gaps, 0, GAP, 1240);
        readPairs(gaps, 1, GAP, 1241);
        faults(check, gaps, 0, 0, 0);
        faults(check, gaps, 1, 0, 1);
        GleePrize none = deskWithNotes(600, 1200);
        none.rules(2, 20, 30, 0, 40);
        readPairs(none, 0, 1240);
        readPairs(none, 1, 1241);
        faults(check, none, 0, 1, 0);
        faults(check, none, 1, 1, 1);
    }

    @Edge(promise = 9, of = "a note is heard from the last one ahead that has an off, past gaps")
    static void faultBehindGaps(Check check) {
        GleePrize x = deskWithNotes(600, 1200, 1800);
        readPairs(x, 0, 640, GAP, 1880);
        readPairs(x, 1, 640, GAP, 1881);
        faults(check, x, 0, 0, 0, 0);
        faults(check, x, 1, 0, 0, 1);
    }

    @Edge(promise = 9, of = "a note is heard from the last one ahead that has an off, past one without readings")
    static void faultBehindNone(Check check) {
        GleePrize x = deskWithNotes(600, 1200, 1800);
        x.rules(2, 20, 30, 0, 40);
        readPairs(x, 0, 640, 1880);
        readPairs(x, 1, 640, 1881);
        takes(check, x, 0, 2, 0, 2);
        faults(check, x, 0, 0, 1, 0);
        faults(check, x, 1, 0, 1, 1);
    }

    @Edge(promise = 9, of = "an ear of 0: each difference is a fault, none is not")
    static void faultsByFinestEar(Check check) {
        GleePrize x = deskWithNotes(600, 1200, 1800);
        x.rules(2, 20, 30, 400, 0);
        readPairs(x, 0, 600, 1200, 1800);
        faults(check, x, 0, 0, 0, 0);
        readPairs(x, 1, 601, 1201, 1800);
        faults(check, x, 1, 1, 0, 1);
    }

    @Edge(promise = 9, of = "an ear of 1000")
    static void faultsByDullestEar(Check check) {
        int[] offs = {1000, 1001, -1000, -1001};
        int[] fault = {0, 1, 0, 1};
        GleePrize x = deskWithNotes(2000);
        x.rules(2, 20, 30, 400, 1000);
        for (int r = 0; r < offs.length; r++) {
            x.read(r, 2000 + offs[r], 2);
            faults(check, x, r, fault[r]);
        }
    }

    @Edge(promise = 9, of = "no fault, and a fault in each of 24 notes")
    static void fewestAndMostFaults(Check check) {
        GleePrize x = new GleePrize();
        for (int k = 0; k < 24; k++) {
            x.note(0, 200 * k, 1);
            x.read(0, 200 * k, 2);
        }
        check.due("told(0, 1)", x.told(0, 1), 0);
        check.due("told(1, 1) without readings", x.told(1, 1), 24);
    }

    @Edge(promise = 9, of = "-100000: no laying, as the piece has no notes")
    static void toldWithoutNotes(Check check) {
        GleePrize x = new GleePrize();
        x.read(0, 1000, 2);
        check.due("told(0, 0)", x.told(0, 0), NO_OFF);
        check.due("told(0, 1)", x.told(0, 1), NO_OFF);
    }

    @Edge(promise = 9, of = "-100000: no such recording; the last one is there")
    static void toldOfNoRecording(Check check) {
        GleePrize x = deskWithNotes(1000);
        for (int r : Edges.outside(0, 9)) {
            check.due("told(" + r + ", 0)", x.told(r, 0), NO_OFF);
            check.due("told(" + r + ", 1)", x.told(r, 1), NO_OFF);
        }
        check.due("told(9, 0)", x.told(9, 0), 0);
        check.due("told(9, 1)", x.told(9, 1), 1);
    }

    @Edge(promise = 9, of = "-100000: what is neither 0 nor 1")
    static void toldOfOthers(Check check) {
        GleePrize x = deskWithNotes(1000);
        x.read(0, 1000, 2);
        for (int what : Edges.outside(0, 1)) {
            check.due("told(0, " + what + ")", x.told(0, what), NO_OFF);
        }
    }
}
