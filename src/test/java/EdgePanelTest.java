/** The boundary cases of promises 10 to 14: sing, judge, judges, place, ranks. */
public final class EdgePanelTest {
    private static final long ALL_TEN = 0x9876543210L;

    public static void main(String[] args) {
        Edges.run(EdgePanelTest.class, 10, 14);
    }

    private static GleePrize deskWhere(int bits) {
        GleePrize x = new GleePrize();
        x.sing(bits);
        return x;
    }

    /** The judges from 0 on tell these rows: "201" puts club 2 first. */
    private static GleePrize deskOf(int bits, String... rows) {
        GleePrize x = deskWhere(bits);
        for (int j = 0; j < rows.length; j++) {
            tell(x, j, rows[j]);
        }
        return x;
    }

    private static boolean tell(GleePrize x, int j, String clubs) {
        return x.judge(j, clubs.length(), Long.parseLong("0" + new StringBuilder(clubs).reverse(), 16));
    }

    private static void places(Check check, GleePrize x, int... places) {
        for (int club = 0; club < places.length; club++) {
            check.due("place(" + club + ")", x.place(club), places[club]);
        }
    }

    // ---- promise 10: sing

    @Edge(promise = 10, of = "one club sings, each of them")
    static void oneSings(Check check) {
        GleePrize x = new GleePrize();
        for (int club = 0; club < 10; club++) {
            check.due("sing of " + club, x.sing(1 << club), 1);
            for (int other = 0; other < 10; other++) {
                check.due("ranks(" + other + ", 1)", x.ranks(other, 1), other == club ? 0 : -1);
            }
        }
    }

    @Edge(promise = 10, of = "all clubs sing")
    static void allSing(Check check) {
        GleePrize x = new GleePrize();
        check.due("sing(1023)", x.sing(1023), 10);
        check.due("ranks(0, 1)", x.ranks(0, 1), 0);
        check.due("ranks(9, 1)", x.ranks(9, 1), 0);
    }

    @Edge(promise = 10, of = "NONE: no club; those that sang still do")
    static void singOfNone(Check check) {
        GleePrize x = deskWhere(5);
        check.due("sing(0)", x.sing(0), -1);
        clubs0And2Sing(check, x);
    }

    @Edge(promise = 10, of = "NONE: a bit above 9, alone; those that sang still do")
    static void singOfOthers(Check check) {
        GleePrize x = deskWhere(5);
        for (int bit = 10; bit < 32; bit++) {
            check.due("sing of bit " + bit, x.sing(1 << bit), -1);
        }
        clubs0And2Sing(check, x);
    }

    @Edge(promise = 10, of = "NONE: a bit above 9 beside clubs; those that sang still do")
    static void singOfOthersBesides(Check check) {
        GleePrize x = deskWhere(5);
        int[] wrong = {1024 + 1, 1024 + 1023, Edges.MAX, Edges.MIN + 1, -1};
        for (int bits : wrong) {
            check.due("sing(" + bits + ")", x.sing(bits), -1);
        }
        clubs0And2Sing(check, x);
    }

    private static void clubs0And2Sing(Check check, GleePrize x) {
        for (int club = 0; club < 10; club++) {
            check.due("ranks(" + club + ", 1)", x.ranks(club, 1), club == 0 || club == 2 ? 0 : -1);
        }
    }

    @Edge(promise = 10, of = "rows of judges stay, while they do not count too")
    static void rowsStay(Check check) {
        GleePrize x = deskOf(7, "210");
        check.due("judges()", x.judges(), 1);
        x.sing(3);
        check.due("judges() for two", x.judges(), 0);
        x.sing(7);
        check.due("judges() for three again", x.judges(), 1);
        places(check, x, 3, 2, 1);
    }

    // ---- promise 11: judge

    @Edge(promise = 11, of = "the first and the last judge")
    static void endsOfJudges(Check check) {
        GleePrize x = deskWhere(3);
        check.due("judge 0", tell(x, 0, "01"), true);
        check.due("judge 8", tell(x, 8, "01"), true);
        check.due("judges()", x.judges(), 2);
    }

    @Edge(promise = 11, of = "false: no such judge, with a row and with none; nothing changes")
    static void noSuchJudge(Check check) {
        GleePrize x = deskWhere(3);
        tell(x, 0, "01");
        tell(x, 8, "01");
        for (int j : Edges.outside(0, 8)) {
            check.due("judge(" + j + ") with a row", x.judge(j, 2, 0x10L), false);
            check.due("judge(" + j + ") with none", x.judge(j, 0, 0L), false);
        }
        check.due("judges()", x.judges(), 2);
    }

    @Edge(promise = 11, of = "a row of one club: the first and the last club")
    static void shortestRow(Check check) {
        GleePrize x = deskWhere(1);
        check.due("a row of 0", x.judge(0, 1, 0L), true);
        check.due("judges()", x.judges(), 1);
        check.due("a row of 9", x.judge(0, 1, 9L), true);
        x.sing(512);
        check.due("judges() of 9", x.judges(), 1);
    }

    @Edge(promise = 11, of = "a row of all ten clubs, the first one in the lowest four bits")
    static void longestRow(Check check) {
        GleePrize x = deskWhere(1023);
        check.due("0 to 9", x.judge(0, 10, ALL_TEN), true);
        places(check, x, 1, 2, 3, 4, 5, 6, 7, 8, 9, 10);
        check.due("9 to 0", x.judge(0, 10, 0x0123456789L), true);
        places(check, x, 10, 9, 8, 7, 6, 5, 4, 3, 2, 1);
    }

    @Edge(promise = 11, of = "n 0: the judge told none, whatever the number is")
    static void emptyRow(Check check) {
        GleePrize x = deskOf(3, "01", "01");
        check.due("judge(0, 0, 0)", x.judge(0, 0, 0L), true);
        check.due("judges()", x.judges(), 1);
        check.due("judge(1, 0, -1)", x.judge(1, 0, -1L), true);
        check.due("judges() then", x.judges(), 0);
        check.due("place(0)", x.place(0), -1);
    }

    @Edge(promise = 11, of = "n 0: of a judge that told none before")
    static void emptyRowOfNone(Check check) {
        GleePrize x = deskOf(3, "01");
        check.due("judge(5, 0, 0)", x.judge(5, 0, 0L), true);
        check.due("judges()", x.judges(), 1);
    }

    @Edge(promise = 11, of = "false: fewer than none, or more than ten clubs; the row before stays")
    static void rowTooShortOrLong(Check check) {
        GleePrize x = deskOf(3, "10");
        for (int n : Edges.outside(0, 10)) {
            check.due("judge(0, " + n + ", 01)", x.judge(0, n, 0x10L), false);
            check.due("judge(0, " + n + ", ten)", x.judge(0, n, ALL_TEN), false);
        }
        places(check, x, 2, 1);
    }

    @Edge(promise = 11, of = "false: no such club, first, last or alone; the row before stays")
    static void rowOfNoClub(Check check) {
        GleePrize x = deskOf(3, "10");
        for (long club = 10; club <= 15; club++) {
            check.due(club + " alone", x.judge(0, 1, club), false);
            check.due(club + " first", x.judge(0, 2, 0x10L + club), false);
            check.due(club + " last", x.judge(0, 3, club << 8 | 0x10L), false);
            check.due(club + " tenth", x.judge(0, 10, club << 36 | ALL_TEN & 0xfffffffffL), false);
        }
        places(check, x, 2, 1);
    }

    @Edge(promise = 11, of = "false: a club twice, side by side; the row before stays")
    static void clubTwice(Check check) {
        GleePrize x = deskOf(3, "10");
        for (long club = 0; club < 10; club++) {
            check.due(club + " twice", x.judge(0, 2, club << 4 | club), false);
        }
        places(check, x, 2, 1);
    }

    @Edge(promise = 11, of = "false: a club twice, as the first and the last of ten; the row before stays")
    static void clubTwiceFarApart(Check check) {
        GleePrize x = deskOf(3, "10");
        check.due("0 to 8 and 0", x.judge(0, 10, 0x0876543210L), false);
        check.due("9 to 1 and 9", x.judge(0, 10, 0x9123456789L), false);
        check.due("judges()", x.judges(), 1);
        places(check, x, 2, 1);
    }

    @Edge(promise = 11, of = "false: a row that is right for some clubs leaves every rank of the row before")
    static void refusedRowLeavesRanks(Check check) {
        GleePrize x = deskOf(7, "012");
        check.due("2, 1, 0 and 10", x.judge(0, 4, 0xa012L), false);
        check.due("2, 1 and 1", x.judge(0, 3, 0x112L), false);
        places(check, x, 1, 2, 3);
        check.due("ranks(0, 1)", x.ranks(0, 1), 1);
        check.due("ranks(2, 2)", x.ranks(2, 2), 0);
    }

    @Edge(promise = 11, of = "what stands above the n clubs is not looked at")
    static void bitsAboveRow(Check check) {
        GleePrize x = deskWhere(3);
        check.due("clubs that are not", x.judge(0, 2, 0xfff01L), true);
        places(check, x, 2, 1);
        check.due("the same club again", x.judge(0, 2, 0x0010L), true);
        places(check, x, 1, 2);
        check.due("a number below 0", x.judge(0, 2, -256L + 1L), true);
        places(check, x, 2, 1);
        x.sing(1023);
        check.due("above ten", x.judge(0, 10, ALL_TEN | 0xffffffL << 40), true);
        check.due("place(9)", x.place(9), 10);
    }

    @Edge(promise = 11, of = "a shorter and a longer row take the place of the one before")
    static void rowInPlaceOfAnother(Check check) {
        GleePrize x = deskOf(3, "012");
        check.due("judges() for a longer one", x.judges(), 0);
        check.due("a shorter one", tell(x, 0, "10"), true);
        check.due("judges()", x.judges(), 1);
        places(check, x, 2, 1);
        check.due("a longer one", tell(x, 0, "201"), true);
        check.due("judges() again", x.judges(), 0);
    }

    @Edge(promise = 11, of = "a row of clubs that do not sing is taken; it just does not count")
    static void rowOfOthers(Check check) {
        GleePrize x = deskWhere(3);
        check.due("a row of 8 and 9", tell(x, 0, "89"), true);
        check.due("judges()", x.judges(), 0);
        x.sing(0x300);
        check.due("judges() once they sing", x.judges(), 1);
    }

    // ---- promise 12: judges

    @Edge(promise = 12, of = "no judge told a row")
    static void noJudge(Check check) {
        check.due("judges()", deskWhere(1023).judges(), 0);
    }

    @Edge(promise = 12, of = "no club sings, though rows were told")
    static void judgesOfNoClub(Check check) {
        GleePrize x = new GleePrize();
        tell(x, 0, "01");
        x.judge(1, 0, 0L);
        check.due("judges()", x.judges(), 0);
    }

    @Edge(promise = 12, of = "all nine judges count")
    static void allJudges(Check check) {
        GleePrize x = deskWhere(3);
        for (int j = 0; j < 9; j++) {
            check.due("judges() ahead of " + j, x.judges(), j);
            tell(x, j, j % 2 == 0 ? "01" : "10");
        }
        check.due("judges()", x.judges(), 9);
    }

    @Edge(promise = 12, of = "a row counts for just these clubs: none with one fewer, one more or another one")
    static void rowsForOtherClubs(Check check) {
        GleePrize x = deskOf(7, "01", "0123", "013", "012");
        check.due("judges()", x.judges(), 1);
    }

    @Edge(promise = 12, of = "a judge that tells a row anew counts once")
    static void rowAnew(Check check) {
        GleePrize x = deskWhere(3);
        tell(x, 4, "01");
        tell(x, 4, "10");
        check.due("judges()", x.judges(), 1);
    }

    // ---- promise 13: place

    @Edge(promise = 13, of = "NONE: a club that does not sing")
    static void placeOfSilent(Check check) {
        GleePrize x = deskOf(0b101, "02");
        places(check, x, 1, -1, 2, -1, -1, -1, -1, -1, -1, -1);
    }

    @Edge(promise = 13, of = "NONE: no such club")
    static void placeOfNoClub(Check check) {
        GleePrize x = deskWhere(1023);
        x.judge(0, 10, ALL_TEN);
        for (int club : Edges.outside(0, 9)) {
            check.due("place(" + club + ")", x.place(club), -1);
        }
        check.due("place(32)", x.place(32), -1);
        check.due("place(-32)", x.place(-32), -1);
    }

    @Edge(promise = 13, of = "NONE: no judge counts, though rows were told")
    static void placeWithoutJudges(Check check) {
        GleePrize x = deskOf(7, "01", "0123");
        places(check, x, -1, -1, -1);
    }

    @Edge(promise = 13, of = "one club, one judge")
    static void placeOfOne(Check check) {
        GleePrize x = deskWhere(512);
        x.judge(8, 1, 9L);
        check.due("place(9)", x.place(9), 1);
    }

    @Edge(promise = 13, of = "half of the judges are not the greater half")
    static void halfIsNotEnough(Check check) {
        places(check, deskOf(7, "012", "210"), 2, 1, 2);
        places(check, deskOf(7, "012", "012", "210", "210"), 2, 1, 2);
    }

    @Edge(promise = 13, of = "one more than half are the greater half: 3 of 4, 2 of 3")
    static void moreThanHalf(Check check) {
        places(check, deskOf(7, "012", "012", "012", "120"), 1, 2, 3);
        places(check, deskOf(7, "012", "012", "120"), 1, 2, 3);
    }

    @Edge(promise = 13, of = "5 of nine judges are the greater half")
    static void fiveOfNine(Check check) {
        places(check, deskOf(7, "021", "021", "021", "021", "021", "120", "120", "120", "120"), 1, 3, 2);
    }

    // Club 0 is first for four, but last for five; of the first two club 1 is for all, club 2 for five.
    @Edge(promise = 13, of = "4 of nine judges are not the greater half")
    static void fourOfNine(Check check) {
        places(check, deskOf(7, "012", "012", "012", "012", "120", "120", "120", "210", "210"), 3, 1, 2);
    }

    // At rank 2 club 0 has four, club 1 three that are better.
    @Edge(promise = 13, of = "more ranks go ahead of a lesser sum")
    static void moreAheadOfSum(Check check) {
        places(check, deskOf(15, "1023", "1032", "2013", "3021", "2130"), 1, 2, 3, 4);
    }

    // At rank 2 clubs 0 and 1 have three each: 1 + 2 + 2 and 2 + 1 + 1.
    @Edge(promise = 13, of = "of as many ranks the lesser sum goes ahead")
    static void lesserSum(Check check) {
        GleePrize x = deskOf(15, "0123", "1023", "1032", "2301", "3201");
        check.due("place(1)", x.place(1), 1);
        check.due("place(0)", x.place(0), 2);
    }

    // The ranks of 0 are 2, 1, 5 and of 1 are 2, 1, 4: alike at ranks 2 and 3.
    @Edge(promise = 13, of = "like ones go by a later rank, as late as the last but one")
    static void laterRank(Check check) {
        places(check, deskOf(31, "31240", "10324", "04312"), 2, 1, 5, 3, 4);
    }

    @Edge(promise = 13, of = "those that are alike to the last rank share the place, the next one has as many more")
    static void sharedPlace(Check check) {
        places(check, deskOf(15, "0123", "1203", "2013"), 1, 1, 1, 4);
    }

    @Edge(promise = 13, of = "the last ones share a place")
    static void sharedLastPlace(Check check) {
        places(check, deskOf(7, "012", "021"), 1, 2, 2);
    }

    @Edge(promise = 13, of = "ten clubs share places two by two")
    static void tenShare(Check check) {
        GleePrize x = deskWhere(1023);
        x.judge(0, 10, ALL_TEN);
        x.judge(1, 10, 0x0123456789L);
        places(check, x, 9, 7, 5, 3, 1, 1, 3, 5, 7, 9);
    }

    @Edge(promise = 13, of = "k goes on till all have a place: the last of ten clubs by nine judges")
    static void lastOfTen(Check check) {
        GleePrize x = deskWhere(1023);
        for (int j = 0; j < 9; j++) {
            x.judge(j, 10, ALL_TEN);
        }
        places(check, x, 1, 2, 3, 4, 5, 6, 7, 8, 9, 10);
    }

    @Edge(promise = 13, of = "a place is by the judges that count then: a row taken back, a club that sings no more")
    static void placeAfterChanges(Check check) {
        GleePrize x = deskOf(3, "01", "01", "10", "10", "10");
        places(check, x, 2, 1);
        x.judge(3, 0, 0L);
        x.judge(4, 0, 0L);
        places(check, x, 1, 2);
        x.sing(1);
        places(check, x, -1, -1);
    }

    // ---- promise 14: ranks

    @Edge(promise = 14, of = "the best rank")
    static void ranksOfOne(Check check) {
        GleePrize x = deskOf(7, "012", "102", "120");
        check.due("ranks(0, 1)", x.ranks(0, 1), 1);
        check.due("ranks(1, 1)", x.ranks(1, 1), 2);
        check.due("ranks(2, 1)", x.ranks(2, 1), 0);
    }

    @Edge(promise = 14, of = "rank k counts itself")
    static void ranksCountK(Check check) {
        GleePrize x = deskOf(7, "012");
        check.due("ranks(1, 1)", x.ranks(1, 1), 0);
        check.due("ranks(1, 2)", x.ranks(1, 2), 1);
    }

    @Edge(promise = 14, of = "the last rank and ranks beyond it: all judges that count")
    static void ranksBeyond(Check check) {
        GleePrize x = deskOf(7, "012", "102", "120", "01");
        int[] ks = {3, 4, 10, 11, Edges.MAX};
        for (int k : ks) {
            check.due("ranks(0, " + k + ")", x.ranks(0, k), 3);
        }
    }

    @Edge(promise = 14, of = "the tenth rank by nine judges")
    static void ranksOfTen(Check check) {
        GleePrize x = deskWhere(1023);
        for (int j = 0; j < 9; j++) {
            x.judge(j, 10, ALL_TEN);
        }
        check.due("ranks(9, 9)", x.ranks(9, 9), 0);
        check.due("ranks(9, 10)", x.ranks(9, 10), 9);
        check.due("ranks(0, 1)", x.ranks(0, 1), 9);
    }

    @Edge(promise = 14, of = "NONE: k is below 1")
    static void ranksBelowOne(Check check) {
        GleePrize x = deskOf(3, "01");
        int[] ks = {0, -1, Edges.MIN};
        for (int k : ks) {
            check.due("ranks(0, " + k + ")", x.ranks(0, k), -1);
        }
    }

    @Edge(promise = 14, of = "NONE: a club that does not sing, though it is in a row")
    static void ranksOfSilent(Check check) {
        GleePrize x = deskOf(3, "01", "012");
        for (int club = 2; club < 10; club++) {
            check.due("ranks(" + club + ", 3)", x.ranks(club, 3), -1);
        }
    }

    @Edge(promise = 14, of = "NONE: no such club")
    static void ranksOfNoClub(Check check) {
        GleePrize x = deskWhere(1023);
        x.judge(0, 10, ALL_TEN);
        for (int club : Edges.outside(0, 9)) {
            check.due("ranks(" + club + ", 10)", x.ranks(club, 10), -1);
        }
        check.due("ranks(32, 10)", x.ranks(32, 10), -1);
    }

    @Edge(promise = 14, of = "no judge counts: none put the club anywhere")
    static void ranksWithoutJudges(Check check) {
        GleePrize x = deskOf(7, "01");
        check.due("ranks(0, 1)", x.ranks(0, 1), 0);
        check.due("ranks(0, max)", x.ranks(0, Edges.MAX), 0);
    }
}
