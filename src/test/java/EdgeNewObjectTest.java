/** The boundary cases of promise 1: a new object, as each call shows it. */
public final class EdgeNewObjectTest {
    private static final int NO_OFF = -100000;

    public static void main(String[] args) {
        Edges.run(EdgeNewObjectTest.class, 1, 1);
    }

    @Edge(promise = 1, of = "no notes: no recording has a laying")
    static void noLayings(Check check) {
        GleePrize x = new GleePrize();
        for (int r = 0; r < 10; r++) {
            check.due("lay(" + r + ")", x.lay(r), -1);
            for (int what = 0; what <= 2; what++) {
                check.due("laid(" + r + ", 0, " + what + ")", x.laid(r, 0, what), -2);
            }
            check.due("off(" + r + ", 0)", x.off(r, 0), NO_OFF);
            check.due("told(" + r + ", 0)", x.told(r, 0), NO_OFF);
            check.due("told(" + r + ", 1)", x.told(r, 1), NO_OFF);
        }
    }

    @Edge(promise = 1, of = "no notes: the first one of each piece is one")
    static void firstNotes(Check check) {
        GleePrize x = new GleePrize();
        for (int piece = 0; piece < 6; piece++) {
            check.due("note of piece " + piece, x.note(piece, 0, 1), 1);
        }
    }

    @Edge(promise = 1, of = "no readings: each recording had none")
    static void noReadingsToDrop(Check check) {
        GleePrize x = new GleePrize();
        for (int r = 0; r < 10; r++) {
            check.due("record(" + r + ", 0)", x.record(r, 0), 0);
        }
    }

    @Edge(promise = 1, of = "no readings: the first ones are counted from none")
    static void firstReadings(Check check) {
        GleePrize x = new GleePrize();
        for (int r = 0; r < 10; r++) {
            check.due("read(" + r + ", 0, 1)", x.read(r, 0, 1), 1);
        }
    }

    @Edge(promise = 1, of = "recording r is of piece 0, and of no other one")
    static void recordingsAreOfPiece0(Check check) {
        GleePrize x = new GleePrize();
        for (int piece = 1; piece < 6; piece++) {
            x.note(piece, 0, 1);
        }
        for (int r = 0; r < 10; r++) {
            check.due("lay(" + r + ") while piece 0 has no notes", x.lay(r), -1);
        }
        x.note(0, 0, 3);
        for (int r = 0; r < 10; r++) {
            check.due("lay(" + r + ") along piece 0", x.lay(r), 400 + 30 * 6);
        }
    }

    @Edge(promise = 1, of = "no rows of judges, whichever clubs sing")
    static void noRows(Check check) {
        GleePrize x = new GleePrize();
        for (int club = 0; club < 10; club++) {
            x.sing(1 << club);
            check.due("judges() while " + club + " sings", x.judges(), 0);
            check.due("place(" + club + ")", x.place(club), -1);
            check.due("ranks(" + club + ", 10)", x.ranks(club, 10), 0);
        }
        x.sing(1023);
        check.due("judges() while all sing", x.judges(), 0);
    }

    @Edge(promise = 1, of = "no club sings yet")
    static void nobodySings(Check check) {
        GleePrize x = new GleePrize();
        check.due("judges()", x.judges(), 0);
        for (int club = 0; club < 10; club++) {
            check.due("place(" + club + ")", x.place(club), -1);
            check.due("ranks(" + club + ", 1)", x.ranks(club, 1), -1);
        }
    }

    @Edge(promise = 1, of = "no judge counts where no club sings, not even one that told none")
    static void emptyRowsWhileNobodySings(Check check) {
        GleePrize x = new GleePrize();
        check.due("judge(0, 0, 0)", x.judge(0, 0, 0), true);
        check.due("judges()", x.judges(), 0);
    }

    @Edge(promise = 1, of = "no members: no club has singers on the first and the last day")
    static void noMembers(Check check) {
        GleePrize x = new GleePrize();
        for (int club = 0; club < 10; club++) {
            check.due("singers(" + club + ", 0)", x.singers(club, 0), 0);
            check.due("singers(" + club + ", 1000)", x.singers(club, 1000), 0);
        }
        for (int person = 0; person < 30; person++) {
            check.due("may(" + person + ", 0, 0)", x.may(person, 0, 0), 0);
        }
    }

    @Edge(promise = 1, of = "no members: the first span is one")
    static void firstSpan(Check check) {
        check.due("member(0, 0, 0, 0)", new GleePrize().member(0, 0, 0, 0), 1);
    }

    @Edge(promise = 1, of = "no performances: none to clear")
    static void nothingToClear(Check check) {
        check.due("clear()", new GleePrize().clear(), 0);
    }

    @Edge(promise = 1, of = "no performances: no hours")
    static void noHours(Check check) {
        GleePrize x = new GleePrize();
        check.due("hours(0)", x.hours(0), 0);
        check.due("hour(0)", x.hour(0), -1);
    }

    @Edge(promise = 1, of = "no hours were found yet, though there is a performance")
    static void noHourAheadOfHours(Check check) {
        GleePrize x = new GleePrize();
        check.due("perform(0)", x.perform(0), 0);
        check.due("hour(0)", x.hour(0), -1);
    }

    @Edge(promise = 1, of = "tempo is 2 and stretch 30 at first")
    static void tempoAndStretchAtFirst(Check check) {
        GleePrize x = new GleePrize();
        x.note(0, 500, 4);
        x.read(0, 500, 8);
        check.due("lay of 4 beats in 8 ticks", x.lay(0), 0);
        x.read(1, 500, 7);
        check.due("lay of a tick too few", x.lay(1), 30);
        x.read(2, 500, 9);
        check.due("lay of a tick too many", x.lay(2), 30);
    }

    @Edge(promise = 1, of = "hole is 20 at first")
    static void holeAtFirst(Check check) {
        GleePrize x = new GleePrize();
        x.note(0, 500, 1);
        x.read(0, -1, 2);
        check.due("lay of two gaps", x.lay(0), 40);
    }

    @Edge(promise = 1, of = "lack is 400 at first")
    static void lackAtFirst(Check check) {
        GleePrize x = new GleePrize();
        x.note(0, 500, 1);
        check.due("lay without readings", x.lay(0), 400 + 2 * 30);
    }

    @Edge(promise = 1, of = "ear is 40 at first")
    static void earAtFirst(Check check) {
        GleePrize x = new GleePrize();
        x.note(0, 500, 1);
        x.read(0, 540, 2);
        x.read(1, 541, 2);
        check.due("faults of 40 off", x.told(0, 1), 0);
        check.due("faults of 41 off", x.told(1, 1), 1);
    }

    @Edge(promise = 1, of = "there are 2 halls at first")
    static void hallsAtFirst(Check check) {
        GleePrize x = new GleePrize();
        for (int club = 0; club < 3; club++) {
            x.perform(club);
        }
        check.due("hours of three", x.hours(0), 2);
        check.due("halls(2)", x.halls(2), 2);
    }

    @Edge(promise = 1, of = "a new object holds nothing of another one")
    static void objectsAreApart(Check check) {
        GleePrize old = new GleePrize();
        old.note(0, 0, 1);
        old.read(0, 0, 60);
        old.rules(8, 0, 0, 0, 0);
        old.sing(1);
        old.judge(0, 1, 0);
        old.member(0, 0, 0, 1000);
        old.perform(0);
        old.halls(4);
        old.hours(0);
        GleePrize x = new GleePrize();
        check.due("lay(0)", x.lay(0), -1);
        check.due("record(0, 0)", x.record(0, 0), 0);
        check.due("place(0)", x.place(0), -1);
        check.due("sing(1)", x.sing(1), 1);
        check.due("judges()", x.judges(), 0);
        check.due("singers(0, 0)", x.singers(0, 0), 0);
        check.due("hour(0)", x.hour(0), -1);
        check.due("clear()", x.clear(), 0);
        check.due("halls(1)", x.halls(1), 2);
        check.due("note(0, 0, 1)", x.note(0, 0, 1), 1);
        check.due("lay(0) by the rules at first", x.lay(0), 460);
        check.due("the old one still has its reading", old.record(0, 0), 60);
    }
}
