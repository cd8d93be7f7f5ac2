/** The boundary cases of promises 2 to 5: note, record, read, rules. */
public final class EdgePieceTest {
    public static void main(String[] args) {
        Edges.run(EdgePieceTest.class, 2, 5);
    }

    // ---- promise 2: note

    @Edge(promise = 2, of = "the first piece, the lowest pitch, the fewest beats")
    static void leastNote(Check check) {
        GleePrize x = new GleePrize();
        check.due("note(0, 0, 1)", x.note(0, 0, 1), 1);
        x.read(0, 0, 2);
        check.due("lay of just this note", x.lay(0), 0);
    }

    @Edge(promise = 2, of = "the last piece, the highest pitch, the most beats")
    static void mostNote(Check check) {
        GleePrize x = new GleePrize();
        check.due("note(5, 4800, 8)", x.note(5, 4800, 8), 1);
        x.record(0, 5);
        x.read(0, 4800, 16);
        check.due("lay of just this note", x.lay(0), 0);
    }

    @Edge(promise = 2, of = "NONE: no such piece")
    static void noteOfNoPiece(Check check) {
        for (int piece : Edges.outside(0, 5)) {
            GleePrize x = new GleePrize();
            check.due("note(" + piece + ", 0, 1)", x.note(piece, 0, 1), -1);
            noPieceHasNotes(check, x);
        }
    }

    @Edge(promise = 2, of = "NONE: a pitch too low or too high, a gap too")
    static void noteOfNoPitch(Check check) {
        for (int pitch : Edges.outside(0, 4800)) {
            GleePrize x = new GleePrize();
            check.due("note(0, " + pitch + ", 1)", x.note(0, pitch, 1), -1);
            noPieceHasNotes(check, x);
        }
    }

    @Edge(promise = 2, of = "NONE: too few or too many beats")
    static void noteOfNoBeats(Check check) {
        for (int beats : Edges.outside(1, 8)) {
            GleePrize x = new GleePrize();
            check.due("note(0, 0, " + beats + ")", x.note(0, 0, beats), -1);
            noPieceHasNotes(check, x);
        }
    }

    private static void noPieceHasNotes(Check check, GleePrize x) {
        check.due("lay(0) after a refused note", x.lay(0), -1);
        for (int piece = 0; piece < 6; piece++) {
            check.due("the first note of piece " + piece, x.note(piece, 0, 1), 1);
        }
    }

    @Edge(promise = 2, of = "a piece takes 24 notes, each counted")
    static void fillPiece(Check check) {
        GleePrize x = new GleePrize();
        for (int i = 1; i <= 24; i++) {
            check.due("note " + i, x.note(3, 100, 1), i);
        }
    }

    @Edge(promise = 2, of = "NONE: the 25th note of a piece, in each piece")
    static void fullPiece(Check check) {
        for (int piece = 0; piece < 6; piece++) {
            GleePrize x = new GleePrize();
            fill(x, piece);
            check.due("the 25th of piece " + piece, x.note(piece, 100, 1), -1);
            check.due("the 25th again", x.note(piece, 100, 1), -1);
        }
    }

    private static void fill(GleePrize x, int piece) {
        for (int i = 0; i < 24; i++) {
            x.note(piece, 100, 1);
        }
    }

    @Edge(promise = 2, of = "the 25th note changes nothing")
    static void fullPieceStays(Check check) {
        GleePrize x = new GleePrize();
        fill(x, 0);
        x.read(0, 100, 48);
        x.note(0, 100, 1);
        check.due("lay(0)", x.lay(0), 0);
        check.due("laid(0, 23, 1)", x.laid(0, 23, 1), 2);
        check.due("laid(0, 24, 1)", x.laid(0, 24, 1), -2);
    }

    @Edge(promise = 2, of = "a full piece leaves the others their room")
    static void fullPieceAlone(Check check) {
        GleePrize x = new GleePrize();
        fill(x, 2);
        check.due("piece 1", x.note(1, 100, 1), 1);
        check.due("piece 3", x.note(3, 100, 1), 1);
    }

    @Edge(promise = 2, of = "a refused note is not counted and not laid along")
    static void refusedNoteChangesNothing(Check check) {
        GleePrize x = new GleePrize();
        x.note(0, 1000, 1);
        x.read(0, 1000, 2);
        check.due("lay(0)", x.lay(0), 0);
        x.note(0, 4801, 1);
        x.note(0, 1000, 9);
        x.note(6, 1000, 1);
        check.due("lay(0) after refused ones", x.lay(0), 0);
        check.due("laid(0, 1, 1)", x.laid(0, 1, 1), -2);
        check.due("the next note", x.note(0, 1000, 1), 2);
    }

    @Edge(promise = 2, of = "a laying that was asked for before sees the note")
    static void noteAfterLay(Check check) {
        GleePrize x = new GleePrize();
        x.note(0, 1000, 1);
        x.read(0, 1000, 2);
        check.due("lay(0)", x.lay(0), 0);
        x.note(0, 1000, 1);
        check.due("lay(0) with a note more", x.lay(0), 60);
        check.due("laid(0, 1, 1)", x.laid(0, 1, 1), 1);
    }

    // ---- promise 3: record

    @Edge(promise = 3, of = "the first recording of the first piece")
    static void leastRecord(Check check) {
        GleePrize x = new GleePrize();
        x.note(0, 100, 1);
        x.read(0, 100, 5);
        check.due("record(0, 0)", x.record(0, 0), 5);
        check.due("lay(0)", x.lay(0), 460);
    }

    @Edge(promise = 3, of = "the last recording of the last piece")
    static void mostRecord(Check check) {
        GleePrize x = new GleePrize();
        x.note(5, 100, 2);
        x.read(9, 100, 7);
        check.due("record(9, 5)", x.record(9, 5), 7);
        check.due("lay(9)", x.lay(9), 400 + 4 * 30);
    }

    @Edge(promise = 3, of = "it had no readings")
    static void recordOfEmpty(Check check) {
        GleePrize x = new GleePrize();
        check.due("record(4, 1)", x.record(4, 1), 0);
        check.due("record(4, 1) again", x.record(4, 1), 0);
    }

    @Edge(promise = 3, of = "it had all 120 readings, and has room for as many")
    static void recordOfFull(Check check) {
        GleePrize x = new GleePrize();
        x.read(4, 100, 60);
        x.read(4, 100, 60);
        check.due("record(4, 0)", x.record(4, 0), 120);
        check.due("60 more", x.read(4, 100, 60), 60);
        check.due("and 60", x.read(4, 100, 60), 120);
    }

    @Edge(promise = 3, of = "a recording of the same piece has no readings either")
    static void recordOfSamePiece(Check check) {
        GleePrize x = new GleePrize();
        x.note(0, 100, 1);
        x.read(0, 100, 2);
        check.due("lay(0)", x.lay(0), 0);
        check.due("record(0, 0)", x.record(0, 0), 2);
        check.due("laid(0, 0, 1)", x.laid(0, 0, 1), 0);
        check.due("the first reading", x.read(0, 100, 1), 1);
    }

    @Edge(promise = 3, of = "of a piece without notes there is no laying any more")
    static void recordOfEmptyPiece(Check check) {
        GleePrize x = new GleePrize();
        x.note(0, 100, 1);
        check.due("lay(0)", x.lay(0), 460);
        check.due("record(0, 1)", x.record(0, 1), 0);
        check.due("lay(0) of piece 1", x.lay(0), -1);
        check.due("lay(1) of piece 0", x.lay(1), 460);
    }

    @Edge(promise = 3, of = "NONE: no such recording; nothing changes")
    static void noSuchRecording(Check check) {
        GleePrize x = recordingsWithReadings();
        for (int r : Edges.outside(0, 9)) {
            check.due("record(" + r + ", 1)", x.record(r, 1), -1);
        }
        nothingRecorded(check, x);
    }

    @Edge(promise = 3, of = "NONE: no such piece; nothing changes")
    static void recordOfNoPiece(Check check) {
        GleePrize x = recordingsWithReadings();
        for (int piece : Edges.outside(0, 5)) {
            check.due("record(0, " + piece + ")", x.record(0, piece), -1);
            check.due("record(9, " + piece + ")", x.record(9, piece), -1);
        }
        nothingRecorded(check, x);
    }

    /** Each recording has two readings that lie on the note of piece 0, and not on that of piece 1. */
    private static GleePrize recordingsWithReadings() {
        GleePrize x = new GleePrize();
        x.note(0, 100, 1);
        x.note(1, 300, 1);
        for (int r = 0; r < 10; r++) {
            x.read(r, 100, 2);
        }
        return x;
    }

    private static void nothingRecorded(Check check, GleePrize x) {
        for (int r = 0; r < 10; r++) {
            check.due("lay(" + r + ") after refused ones", x.lay(r), 0);
            check.due("readings of " + r, x.record(r, 0), 2);
        }
    }

    @Edge(promise = 3, of = "the other recordings keep their readings, and the pieces their notes")
    static void recordOfOneAlone(Check check) {
        GleePrize x = recordingsWithReadings();
        check.due("record(5, 1)", x.record(5, 1), 2);
        check.due("lay(4)", x.lay(4), 0);
        check.due("lay(6)", x.lay(6), 0);
        check.due("the second note of piece 1", x.note(1, 300, 1), 2);
    }

    @Edge(promise = 3, of = "a laying that was asked for before sees the other piece")
    static void recordAfterLay(Check check) {
        GleePrize x = recordingsWithReadings();
        x.note(1, 300, 1);
        check.due("lay(0)", x.lay(0), 0);
        x.record(0, 1);
        check.due("lay(0) of piece 1", x.lay(0), 2 * 460);
        check.due("laid(0, 1, 1)", x.laid(0, 1, 1), 0);
    }

    // ---- promise 4: read

    @Edge(promise = 4, of = "one reading, the fewest")
    static void readOne(Check check) {
        GleePrize x = new GleePrize();
        check.due("read(0, 100, 1)", x.read(0, 100, 1), 1);
        check.due("one more", x.read(0, 100, 1), 2);
    }

    @Edge(promise = 4, of = "sixty readings, the most at once")
    static void readSixty(Check check) {
        GleePrize x = new GleePrize();
        x.note(0, 100, 1);
        x.rules(1, 0, 1, 0, 0);
        check.due("read(0, 100, 60)", x.read(0, 100, 60), 60);
        check.due("lay(0): 59 too many", x.lay(0), 59);
    }

    @Edge(promise = 4, of = "NONE: fewer than 1 or more than 60 at once; nothing changes")
    static void readTooFewOrMany(Check check) {
        GleePrize x = new GleePrize();
        for (int n : Edges.outside(1, 60)) {
            check.due("read(0, 100, " + n + ")", x.read(0, 100, n), -1);
            check.due("read(0, NONE, " + n + ")", x.read(0, -1, n), -1);
        }
        check.due("readings", x.record(0, 0), 0);
    }

    @Edge(promise = 4, of = "the lowest and the highest pitch")
    static void readEndsOfPitch(Check check) {
        GleePrize x = new GleePrize();
        x.note(0, 2400, 1);
        check.due("read(0, 0, 2)", x.read(0, 0, 2), 2);
        check.due("read(1, 4800, 2)", x.read(1, 4800, 2), 2);
        check.due("off(0, 0)", x.off(0, 0), -2400);
        check.due("off(1, 0)", x.off(1, 0), 2400);
    }

    @Edge(promise = 4, of = "a pitch of NONE is a gap")
    static void readGap(Check check) {
        GleePrize x = new GleePrize();
        x.note(0, 0, 1);
        check.due("read(0, NONE, 2)", x.read(0, GleePrize.NONE, 2), 2);
        check.due("lay(0)", x.lay(0), 40);
        check.due("off(0, 0)", x.off(0, 0), -100000);
    }

    @Edge(promise = 4, of = "NONE: a pitch too low (below a gap) or too high; nothing changes")
    static void readNoPitch(Check check) {
        GleePrize x = new GleePrize();
        int[] wrong = {Edges.MIN, -3, -2, 4801, Edges.MAX};
        for (int pitch : wrong) {
            check.due("read(0, " + pitch + ", 1)", x.read(0, pitch, 1), -1);
        }
        check.due("readings", x.record(0, 0), 0);
    }

    @Edge(promise = 4, of = "the first and the last recording")
    static void readEndsOfRecordings(Check check) {
        GleePrize x = new GleePrize();
        check.due("read(0, 100, 3)", x.read(0, 100, 3), 3);
        check.due("read(9, 100, 4)", x.read(9, 100, 4), 4);
        check.due("record(0, 0)", x.record(0, 0), 3);
        check.due("record(9, 0)", x.record(9, 0), 4);
    }

    @Edge(promise = 4, of = "NONE: no such recording; nothing changes")
    static void readNoRecording(Check check) {
        GleePrize x = new GleePrize();
        for (int r : Edges.outside(0, 9)) {
            check.due("read(" + r + ", 100, 1)", x.read(r, 100, 1), -1);
        }
        for (int r = 0; r < 10; r++) {
            check.due("readings of " + r, x.record(r, 0), 0);
        }
    }

    @Edge(promise = 4, of = "a recording takes 120 readings")
    static void fillRecording(Check check) {
        GleePrize x = new GleePrize();
        check.due("119 at first", readTo119(x), 119);
        check.due("the 120th", x.read(0, 100, 1), 120);
    }

    private static int readTo119(GleePrize x) {
        x.read(0, 100, 60);
        return x.read(0, 100, 59);
    }

    @Edge(promise = 4, of = "NONE: the 121st reading, pitch or gap")
    static void fullRecording(Check check) {
        GleePrize x = new GleePrize();
        x.read(0, 100, 60);
        check.due("120", x.read(0, 100, 60), 120);
        check.due("read(0, 100, 1)", x.read(0, 100, 1), -1);
        check.due("read(0, NONE, 1)", x.read(0, -1, 1), -1);
        check.due("read(0, 100, 60)", x.read(0, 100, 60), -1);
        check.due("they stay", x.record(0, 0), 120);
    }

    @Edge(promise = 4, of = "NONE: more than there is room for; not even those with room are taken")
    static void readBeyondRoom(Check check) {
        GleePrize x = new GleePrize();
        readTo119(x);
        check.due("two", x.read(0, 100, 2), -1);
        check.due("sixty", x.read(0, 100, 60), -1);
        check.due("one has room still", x.read(0, 100, 1), 120);
    }

    @Edge(promise = 4, of = "a full recording leaves the others their room")
    static void fullRecordingAlone(Check check) {
        GleePrize x = new GleePrize();
        readTo119(x);
        x.read(0, 100, 1);
        check.due("read(1, 100, 60)", x.read(1, 100, 60), 60);
    }

    @Edge(promise = 4, of = "a refused read changes no laying")
    static void refusedReadChangesNothing(Check check) {
        GleePrize x = new GleePrize();
        x.note(0, 100, 1);
        x.read(0, 100, 2);
        check.due("lay(0)", x.lay(0), 0);
        x.read(0, 4801, 1);
        x.read(0, 100, 0);
        x.read(0, 100, 61);
        check.due("lay(0) after refused ones", x.lay(0), 0);
        check.due("laid(0, 0, 1)", x.laid(0, 0, 1), 2);
    }

    @Edge(promise = 4, of = "a laying that was asked for before sees the readings")
    static void readAfterLay(Check check) {
        GleePrize x = new GleePrize();
        x.note(0, 1000, 1);
        check.due("lay(0)", x.lay(0), 460);
        x.read(0, 1001, 2);
        check.due("lay(0) with readings", x.lay(0), 2);
        check.due("off(0, 0)", x.off(0, 0), 1);
    }

    // ---- promise 5: rules

    private static final int[] LEAST = {1, 0, 0, 0, 0};
    private static final int[] MOST = {8, 1000, 1000, 10000, 1000};
    private static final int[] AT_FIRST = {2, 20, 30, 400, 40};

    private static boolean set(GleePrize x, int[] rules) {
        return x.rules(rules[0], rules[1], rules[2], rules[3], rules[4]);
    }

    /** One note, and recordings without readings, with a gap and with nine gaps; recording 3 is left free. */
    private static GleePrize deskForRules() {
        GleePrize x = new GleePrize();
        x.note(0, 2000, 1);
        x.read(1, -1, 1);
        x.read(2, -1, 9);
        return x;
    }

    /** Looks at answers that tell every one of the five rules. */
    private static void rulesAre(Check check, String when, GleePrize x, int[] rules) {
        int tempo = rules[0];
        int hole = rules[1];
        int stretch = rules[2];
        check.due("no readings " + when, x.lay(0), rules[3] + stretch * tempo);
        check.due("a gap " + when, x.lay(1), hole + stretch * (tempo - 1));
        check.due("nine gaps " + when, x.lay(2), 9 * hole + stretch * (9 - tempo));
        x.record(3, 0);
        x.read(3, 2000 + rules[4], 1);
        check.due("as far as the ear " + when, x.laid(3, 0, 2), 0);
        x.record(3, 0);
        x.read(3, 2000 - rules[4] - 1, 1);
        check.due("farther than the ear " + when, x.laid(3, 0, 2), 1);
    }

    @Edge(promise = 5, of = "all rules at their least hold")
    static void leastRules(Check check) {
        GleePrize x = deskForRules();
        check.due("rules(1, 0, 0, 0, 0)", set(x, LEAST), true);
        rulesAre(check, "by the least", x, LEAST);
    }

    @Edge(promise = 5, of = "all rules at their most hold")
    static void mostRules(Check check) {
        GleePrize x = deskForRules();
        check.due("rules(8, 1000, 1000, 10000, 1000)", set(x, MOST), true);
        rulesAre(check, "by the most", x, MOST);
    }

    @Edge(promise = 5, of = "false: tempo can't be; the other rules stay too")
    static void noTempo(Check check) {
        oneRuleCannotBe(check, 0);
    }

    @Edge(promise = 5, of = "false: hole can't be; the other rules stay too")
    static void noHole(Check check) {
        oneRuleCannotBe(check, 1);
    }

    @Edge(promise = 5, of = "false: stretch can't be; the other rules stay too")
    static void noStretch(Check check) {
        oneRuleCannotBe(check, 2);
    }

    @Edge(promise = 5, of = "false: lack can't be; the other rules stay too")
    static void noLack(Check check) {
        oneRuleCannotBe(check, 3);
    }

    @Edge(promise = 5, of = "false: ear can't be; the other rules stay too")
    static void noEar(Check check) {
        oneRuleCannotBe(check, 4);
    }

    // The other four differ from those at first, so that a rule that was taken all the same would show.
    private static void oneRuleCannotBe(Check check, int which) {
        for (int wrong : Edges.outside(LEAST[which], MOST[which])) {
            GleePrize x = deskForRules();
            int[] rules = {5, 77, 55, 999, 123};
            rules[which] = wrong;
            check.due("rule " + which + " of " + wrong, set(x, rules), false);
            rulesAre(check, "after " + wrong, x, AT_FIRST);
        }
    }

    @Edge(promise = 5, of = "rules that were taken stay when others are refused")
    static void refusedAfterTaken(Check check) {
        GleePrize x = deskForRules();
        int[] taken = {3, 7, 11, 13, 17};
        check.due("rules(3, 7, 11, 13, 17)", set(x, taken), true);
        check.due("rules(9, 0, 0, 0, 0)", x.rules(9, 0, 0, 0, 0), false);
        rulesAre(check, "after both", x, taken);
    }

    @Edge(promise = 5, of = "a laying that was asked for before sees the rules, the ear alone too")
    static void rulesAfterLay(Check check) {
        GleePrize x = new GleePrize();
        x.note(0, 1000, 1);
        x.read(0, 1040, 3);
        check.due("lay(0)", x.lay(0), 3 * 40 + 30);
        check.due("told(0, 1)", x.told(0, 1), 0);
        x.rules(2, 20, 30, 400, 39);
        check.due("told(0, 1) by a finer ear", x.told(0, 1), 1);
        x.rules(3, 20, 30, 400, 39);
        check.due("lay(0) by another tempo", x.lay(0), 3 * 40);
    }
}
