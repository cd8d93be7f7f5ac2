/** Promise 1: what a new object holds, and the numbers that the document gives "at first". */
public final class NewObjectTest {
    public static void main(String[] args) {
        Check check = new Check();
        check.due("NONE", GleePrize.NONE, -1);
        noLayings(check);
        noRows(check);
        noMembers(check);
        recordingsAreOfPiece0(check);
        rulesAtFirst(check);
        objectsAreApart(check);
        check.end();
    }

    private static void noLayings(Check check) {
        GleePrize x = new GleePrize();
        for (int r = 0; r < 10; r++) {
            check.due("lay of " + r, x.lay(r), -1);
            check.due("laid of " + r, x.laid(r, 0, 1), -2);
            check.due("off of " + r, x.off(r, 0), -100000);
            check.due("told of " + r, x.told(r, 1), -100000);
            check.due("record of " + r, x.record(r, 0), 0);
        }
        for (int piece = 0; piece < 6; piece++) {
            check.due("note of " + piece, x.note(piece, 1, 1), 1);
        }
    }

    private static void noRows(Check check) {
        GleePrize x = new GleePrize();
        check.due("judges()", x.judges(), 0);
        for (int club = 0; club < 10; club++) {
            check.due("place(" + club + ")", x.place(club), -1);
            check.due("ranks(" + club + ", 1): no club sings yet", x.ranks(club, 1), -1);
        }
        check.due("sing(1)", x.sing(1), 1);
        check.due("judges() once a club sings", x.judges(), 0);
        check.due("place(0) without judges", x.place(0), -1);
        check.due("ranks(0, 1) without judges", x.ranks(0, 1), 0);
    }

    private static void noMembers(Check check) {
        GleePrize x = new GleePrize();
        check.due("hour(0) ahead of hours()", x.hour(0), -1);
        check.due("singers(0, 0)", x.singers(0, 0), 0);
        check.due("may(0, 0, 0)", x.may(0, 0, 0), 0);
        check.due("clear()", x.clear(), 0);
        check.due("hours(0)", x.hours(0), 0);
        check.due("perform(0)", x.perform(0), 0);
        check.due("member(0, 0, 0, 0)", x.member(0, 0, 0, 0), 1);
        check.due("halls(4)", x.halls(4), 2);
    }

    private static void recordingsAreOfPiece0(Check check) {
        GleePrize x = new GleePrize();
        x.note(0, 500, 3);
        x.note(1, 500, 1);
        for (int r = 0; r < 10; r++) {
            check.due("lay(" + r + ")", x.lay(r), 400 + 30 * 6);
        }
    }

    // A note of one beat: 2 ticks, a gap costs 20, a tick too few or many 30, none 400; an ear of 40.
    private static void rulesAtFirst(Check check) {
        GleePrize x = new GleePrize();
        x.note(0, 500, 1);
        check.due("no readings", x.lay(0), 400 + 2 * 30);
        x.read(0, -1, 1);
        check.due("a gap", x.lay(0), 20 + 30);
        x.read(0, 540, 1);
        check.due("a gap and a reading", x.lay(0), 20 + 40);
        check.due("off by the ear", x.told(0, 1), 0);
        x.record(0, 0);
        x.read(0, 541, 3);
        check.due("three readings", x.lay(0), 3 * 41 + 30);
        check.due("off by more than the ear", x.told(0, 1), 1);
    }

    private static void objectsAreApart(Check check) {
        GleePrize x = new GleePrize();
        x.note(0, 1, 1);
        x.perform(0);
        x.halls(3);
        GleePrize y = new GleePrize();
        check.due("lay of another object", y.lay(0), -1);
        check.due("clear of another object", y.clear(), 0);
        check.due("halls of another object", y.halls(1), 2);
    }
}
