/** Promises 10 to 14: sing, judge, judges, place, ranks. */
public final class PanelTest {
    private static final int MAX = Integer.MAX_VALUE;
    private static final int MIN = Integer.MIN_VALUE;

    public static void main(String[] args) {
        Check check = new Check();
        sings(check);
        rows(check);
        whoCounts(check);
        ranks(check);
        moreFirst(check);
        lesserSum(check);
        laterRanks(check);
        sharedPlaces(check);
        halfIsNotEnough(check);
        check.end();
    }

    /** A row as judge() takes it, from text: "201" puts club 2 first. */
    private static boolean tell(GleePrize x, int j, String clubs) {
        long row = 0;
        for (int i = 0; i < clubs.length(); i++) {
            row |= (long) (clubs.charAt(i) - '0') << (4 * i);
        }
        return x.judge(j, clubs.length(), row);
    }

    private static void places(Check check, String what, GleePrize x, int... places) {
        for (int club = 0; club < places.length; club++) {
            check.due(what + ": place(" + club + ")", x.place(club), places[club]);
        }
    }

    private static void sings(Check check) {
        GleePrize x = new GleePrize();
        check.due("sing(1023)", x.sing(1023), 10);
        check.due("sing(512)", x.sing(512), 1);
        check.due("sing(5)", x.sing(5), 2);
        int[] wrong = {0, 1024, 1025, -1, MAX, MIN};
        for (int bits : wrong) {
            check.due("sing(" + bits + ")", x.sing(bits), -1);
        }
        check.due("0 still sings", x.ranks(0, 1), 0);
        check.due("1 does not", x.ranks(1, 1), -1);
        check.due("2 still sings", x.ranks(2, 1), 0);
    }

    private static void rows(Check check) {
        GleePrize x = new GleePrize();
        x.sing(3);
        check.due("a row", tell(x, 0, "01"), true);
        check.due("the last judge", tell(x, 8, "01"), true);
        check.due("both count", x.judges(), 2);
        check.due("judge -1", x.judge(-1, 2, 0x10L), false);
        check.due("judge 9", x.judge(9, 2, 0x10L), false);
        check.due("judge max", x.judge(MAX, 2, 0x10L), false);
        check.due("judge min", x.judge(MIN, 0, 0L), false);
        check.due("n -1", x.judge(0, -1, 0x10L), false);
        check.due("n 11", x.judge(0, 11, 0x10L), false);
        check.due("n min", x.judge(0, MIN, 0x10L), false);
        check.due("n max", x.judge(0, MAX, 0x10L), false);
        check.due("club 10", x.judge(0, 2, 0xa0L), false);
        check.due("club 15", x.judge(0, 1, 0xfL), false);
        check.due("a club twice", x.judge(0, 2, 0x11L), false);
        check.due("the first again at the end", x.judge(0, 3, 0x010L), false);
        check.due("refused rows change nothing", x.judges(), 2);
        places(check, "refused rows", x, 1, 2);
        check.due("what is above the row does not count", x.judge(0, 2, 0xfff01L), true);
        check.due("nor in a negative number", x.judge(8, 2, -256L + 1L), true);
        places(check, "new rows", x, 2, 1);
        check.due("n 0 with bits", x.judge(0, 0, 0xfffL), true);
        check.due("one is left", x.judges(), 1);
        check.due("all ten", x.judge(1, 10, 0x9876543210L), true);
        x.sing(1023);
        check.due("ten sing", x.judges(), 1);
        places(check, "ten", x, 1, 2, 3, 4, 5, 6, 7, 8, 9, 10);
    }

    private static void whoCounts(Check check) {
        GleePrize x = new GleePrize();
        check.due("a row ahead of sing()", tell(x, 0, "012"), true);
        check.due("nobody sings", x.judges(), 0);
        tell(x, 1, "01");
        tell(x, 2, "0123");
        tell(x, 3, "013");
        tell(x, 4, "210");
        x.sing(7);
        check.due("just these clubs", x.judges(), 2);
        check.due("ranks by them", x.ranks(0, 1), 1);
        x.sing(11);
        check.due("others", x.judges(), 1);
        check.due("rank of 3", x.ranks(3, 2), 0);
        x.sing(15);
        check.due("all four", x.judges(), 1);
        x.sing(31);
        check.due("none for five", x.judges(), 0);
        check.due("no place without judges", x.place(0), -1);
        x.sing(3);
        check.due("two", x.judges(), 1);
        check.due("refused", x.sing(0), -1);
        check.due("still two", x.judges(), 1);
    }

    private static void ranks(Check check) {
        GleePrize x = new GleePrize();
        x.sing(7);
        tell(x, 0, "012");
        tell(x, 1, "102");
        tell(x, 2, "120");
        check.due("ranks(0, 1)", x.ranks(0, 1), 1);
        check.due("ranks(0, 2)", x.ranks(0, 2), 2);
        check.due("ranks(0, 3)", x.ranks(0, 3), 3);
        check.due("ranks(0, 4)", x.ranks(0, 4), 3);
        check.due("ranks(0, max)", x.ranks(0, MAX), 3);
        check.due("ranks(1, 1)", x.ranks(1, 1), 2);
        check.due("ranks(2, 1)", x.ranks(2, 1), 0);
        check.due("ranks(0, 0)", x.ranks(0, 0), -1);
        check.due("ranks(0, -1)", x.ranks(0, -1), -1);
        check.due("ranks(0, min)", x.ranks(0, MIN), -1);
        int[] noSuch = {3, 9, 10, -1, 31, 32, 33, MAX, MIN};
        for (int club : noSuch) {
            check.due("ranks(" + club + ", 1)", x.ranks(club, 1), -1);
            check.due("place(" + club + ")", x.place(club), -1);
        }
    }

    private static void moreFirst(Check check) {
        GleePrize x = new GleePrize();
        x.sing(15);
        // At rank 2 club 0 has 4 and club 1 has 3, though the sum of club 1 is lesser.
        tell(x, 0, "1023");
        tell(x, 1, "1032");
        tell(x, 2, "2013");
        tell(x, 3, "3021");
        tell(x, 4, "2130");
        places(check, "more ranks", x, 1, 2, 3, 4);
    }

    private static void lesserSum(Check check) {
        GleePrize x = new GleePrize();
        x.sing(15);
        // At rank 2 clubs 0 and 1 have 3 each: 1 + 2 + 2 and 2 + 1 + 1.
        tell(x, 0, "0123");
        tell(x, 1, "1023");
        tell(x, 2, "1032");
        tell(x, 3, "2301");
        tell(x, 4, "3201");
        check.due("0 has", x.ranks(0, 2), 3);
        check.due("1 has", x.ranks(1, 2), 3);
        check.due("2 has", x.ranks(2, 2), 2);
        check.due("place(1)", x.place(1), 1);
        check.due("place(0)", x.place(0), 2);
    }

    // At rank 1 clubs 0 and 1 have 2 of 4, at rank 2 three with the sum 4; at rank 3 club 1 has 4.
    private static void laterRanks(Check check) {
        GleePrize x = new GleePrize();
        x.sing(31);
        tell(x, 0, "01234");
        tell(x, 1, "02134");
        tell(x, 2, "10234");
        tell(x, 3, "12340");
        check.due("0 at 2", x.ranks(0, 2), 3);
        check.due("1 at 2", x.ranks(1, 2), 3);
        check.due("0 at 3", x.ranks(0, 3), 3);
        check.due("1 at 3", x.ranks(1, 3), 4);
        places(check, "how many at a later rank", x, 2, 1, 3, 4, 5);
    }

    private static void sharedPlaces(Check check) {
        GleePrize x = new GleePrize();
        x.sing(31);
        tell(x, 0, "40123");
        tell(x, 1, "41230");
        tell(x, 2, "42301");
        tell(x, 3, "43012");
        places(check, "four share", x, 2, 2, 2, 2, 1);
        x.sing(15);
        tell(x, 0, "0123");
        tell(x, 1, "1032");
        tell(x, 2, "");
        tell(x, 3, "");
        places(check, "two and two", x, 1, 1, 3, 3);
    }

    private static void halfIsNotEnough(Check check) {
        GleePrize x = new GleePrize();
        x.sing(7);
        // Club 0 is first for two of four only; club 1 is second at least for all.
        tell(x, 0, "012");
        tell(x, 1, "012");
        tell(x, 2, "210");
        tell(x, 3, "210");
        places(check, "half", x, 2, 1, 2);
        tell(x, 4, "012");
        places(check, "more than half", x, 1, 2, 3);
    }
}
