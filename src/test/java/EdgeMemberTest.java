/** The boundary cases of promises 15 to 17: member, may, singers. */
public final class EdgeMemberTest {
    public static void main(String[] args) {
        Edges.run(EdgeMemberTest.class, 15, 17);
    }

    // ---- promise 15: member

    @Edge(promise = 15, of = "the first person, club and day: a span of one day")
    static void leastMember(Check check) {
        GleePrize x = new GleePrize();
        check.due("member(0, 0, 0, 0)", x.member(0, 0, 0, 0), 1);
        check.due("may(0, 0, 0)", x.may(0, 0, 0), 1);
        check.due("may(0, 0, 1)", x.may(0, 0, 1), 0);
    }

    @Edge(promise = 15, of = "the last person, club and day: a span of one day")
    static void mostMember(Check check) {
        GleePrize x = new GleePrize();
        check.due("member(29, 9, 1000, 1000)", x.member(29, 9, 1000, 1000), 1);
        check.due("may(29, 9, 1000)", x.may(29, 9, 1000), 1);
        check.due("may(29, 9, 999)", x.may(29, 9, 999), 0);
    }

    @Edge(promise = 15, of = "a span of all days")
    static void longestSpan(Check check) {
        GleePrize x = new GleePrize();
        check.due("member(3, 3, 0, 1000)", x.member(3, 3, 0, 1000), 1);
        check.due("may(3, 3, 0)", x.may(3, 3, 0), 1);
        check.due("may(3, 3, 500)", x.may(3, 3, 500), 1);
        check.due("may(3, 3, 1000)", x.may(3, 3, 1000), 1);
    }

    @Edge(promise = 15, of = "NONE: no such person; nothing changes")
    static void noPerson(Check check) {
        GleePrize x = new GleePrize();
        for (int person : Edges.outside(0, 29)) {
            check.due("member(" + person + ", 0, 0, 1000)", x.member(person, 0, 0, 1000), -1);
        }
        nobodyIsMember(check, x);
    }

    @Edge(promise = 15, of = "NONE: no such club; nothing changes")
    static void noClub(Check check) {
        GleePrize x = new GleePrize();
        for (int club : Edges.outside(0, 9)) {
            check.due("member(0, " + club + ", 0, 1000)", x.member(0, club, 0, 1000), -1);
        }
        nobodyIsMember(check, x);
    }

    @Edge(promise = 15, of = "NONE: the first day can't be; nothing changes")
    static void noFirstDay(Check check) {
        GleePrize x = new GleePrize();
        for (int from : Edges.outside(0, 1000)) {
            check.due("member(0, 0, " + from + ", 1000)", x.member(0, 0, from, 1000), -1);
        }
        nobodyIsMember(check, x);
    }

    @Edge(promise = 15, of = "NONE: the last day can't be; nothing changes")
    static void noLastDay(Check check) {
        GleePrize x = new GleePrize();
        for (int to : Edges.outside(0, 1000)) {
            check.due("member(0, 0, 0, " + to + ")", x.member(0, 0, 0, to), -1);
        }
        nobodyIsMember(check, x);
    }

    @Edge(promise = 15, of = "NONE: neither day can be, though one is not behind the other; nothing changes")
    static void neitherDay(Check check) {
        GleePrize x = new GleePrize();
        check.due("member(0, 0, -2, -1)", x.member(0, 0, -2, -1), -1);
        check.due("member(0, 0, 1001, 1001)", x.member(0, 0, 1001, 1001), -1);
        check.due("member(0, 0, -1, 1001)", x.member(0, 0, -1, 1001), -1);
        nobodyIsMember(check, x);
    }

    @Edge(promise = 15, of = "NONE: the first day is behind the last one; nothing changes")
    static void daysTurned(Check check) {
        GleePrize x = new GleePrize();
        check.due("member(0, 0, 1, 0)", x.member(0, 0, 1, 0), -1);
        check.due("member(0, 0, 1000, 999)", x.member(0, 0, 1000, 999), -1);
        check.due("member(0, 0, 1000, 0)", x.member(0, 0, 1000, 0), -1);
        nobodyIsMember(check, x);
    }

    private static void nobodyIsMember(Check check, GleePrize x) {
        for (int club = 0; club < 10; club++) {
            check.due("singers(" + club + ", 0)", x.singers(club, 0), 0);
            check.due("singers(" + club + ", 1000)", x.singers(club, 1000), 0);
        }
        check.due("the first span", x.member(0, 0, 0, 1000), 1);
    }

    @Edge(promise = 15, of = "sixty spans are taken, each counted, like ones too")
    static void fillRoll(Check check) {
        GleePrize x = new GleePrize();
        for (int i = 1; i <= 60; i++) {
            check.due("span " + i, x.member(4, 4, 10, 20), i);
        }
    }

    @Edge(promise = 15, of = "NONE: the 61st span, of whomever; nothing changes")
    static void fullRoll(Check check) {
        GleePrize x = new GleePrize();
        for (int i = 0; i < 60; i++) {
            x.member(i % 30, i % 10, i, i);
        }
        check.due("the 61st of a member", x.member(5, 5, 70, 70), -1);
        check.due("the 61st of another", x.member(5, 6, 70, 70), -1);
        check.due("may(5, 5, 70)", x.may(5, 5, 70), 0);
        check.due("singers(6, 70)", x.singers(6, 70), 0);
        for (int i = 0; i < 60; i++) {
            check.due("span " + i + " still holds", x.may(i % 30, i % 10, i), 1);
        }
    }

    @Edge(promise = 15, of = "refused spans do not fill the roll")
    static void refusedDoNotFill(Check check) {
        GleePrize x = new GleePrize();
        for (int i = 0; i < 70; i++) {
            x.member(0, 0, 1, 0);
        }
        check.due("the first span", x.member(0, 0, 0, 0), 1);
    }

    // ---- promise 16: may

    @Edge(promise = 16, of = "both ends of a span count, the days beside it do not")
    static void endsOfSpan(Check check) {
        GleePrize x = new GleePrize();
        x.member(7, 3, 100, 200);
        int[] days = {0, 99, 100, 101, 199, 200, 201, 1000};
        int[] may = {0, 0, 1, 1, 1, 1, 0, 0};
        for (int i = 0; i < days.length; i++) {
            check.due("may(7, 3, " + days[i] + ")", x.may(7, 3, days[i]), may[i]);
        }
    }

    @Edge(promise = 16, of = "a span of one day holds on it alone")
    static void oneDay(Check check) {
        GleePrize x = new GleePrize();
        x.member(7, 3, 100, 100);
        check.due("may(7, 3, 99)", x.may(7, 3, 99), 0);
        check.due("may(7, 3, 100)", x.may(7, 3, 100), 1);
        check.due("may(7, 3, 101)", x.may(7, 3, 101), 0);
    }

    @Edge(promise = 16, of = "some span of several holds: the days between two do not, those of both count once")
    static void severalSpans(Check check) {
        GleePrize x = new GleePrize();
        x.member(7, 3, 10, 20);
        x.member(7, 3, 22, 30);
        x.member(7, 3, 25, 40);
        int[] days = {20, 21, 22, 25, 30, 31, 40, 41};
        int[] may = {1, 0, 1, 1, 1, 1, 1, 0};
        for (int i = 0; i < days.length; i++) {
            check.due("may(7, 3, " + days[i] + ")", x.may(7, 3, days[i]), may[i]);
        }
    }

    @Edge(promise = 16, of = "a person is of two clubs on a day, and of no other one")
    static void twoClubs(Check check) {
        GleePrize x = new GleePrize();
        x.member(0, 0, 0, 10);
        x.member(0, 9, 10, 20);
        for (int club = 0; club < 10; club++) {
            check.due("may(0, " + club + ", 10)", x.may(0, club, 10), club == 0 || club == 9 ? 1 : 0);
        }
    }

    @Edge(promise = 16, of = "the persons beside a member are none")
    static void personsBeside(Check check) {
        GleePrize x = new GleePrize();
        x.member(0, 0, 5, 5);
        x.member(29, 0, 5, 5);
        for (int person = 0; person < 30; person++) {
            check.due("may(" + person + ", 0, 5)", x.may(person, 0, 5), person == 0 || person == 29 ? 1 : 0);
        }
    }

    /** Everybody is of the first and the last club on all days: what is refused is so for its number alone. */
    private static GleePrize fullDesk() {
        GleePrize x = new GleePrize();
        for (int person = 0; person < 30; person++) {
            x.member(person, 0, 0, 1000);
            x.member(person, 9, 0, 1000);
        }
        return x;
    }

    @Edge(promise = 16, of = "NONE: no such person")
    static void mayOfNoPerson(Check check) {
        GleePrize x = fullDesk();
        for (int person : Edges.outside(0, 29)) {
            check.due("may(" + person + ", 0, 0)", x.may(person, 0, 0), -1);
        }
        check.due("may(32, 0, 0)", x.may(32, 0, 0), -1);
    }

    @Edge(promise = 16, of = "NONE: no such club")
    static void mayOfNoClub(Check check) {
        GleePrize x = fullDesk();
        for (int club : Edges.outside(0, 9)) {
            check.due("may(0, " + club + ", 0)", x.may(0, club, 0), -1);
        }
    }

    @Edge(promise = 16, of = "NONE: no such day; the first and the last one are")
    static void mayOfNoDay(Check check) {
        GleePrize x = fullDesk();
        for (int day : Edges.outside(0, 1000)) {
            check.due("may(0, 0, " + day + ")", x.may(0, 0, day), -1);
        }
        check.due("may(29, 9, 0)", x.may(29, 9, 0), 1);
        check.due("may(29, 9, 1000)", x.may(29, 9, 1000), 1);
    }

    // ---- promise 17: singers

    @Edge(promise = 17, of = "a club without singers that day: 0, not NONE")
    static void noSingers(Check check) {
        GleePrize x = new GleePrize();
        x.member(0, 1, 0, 0);
        check.due("singers(0, 0)", x.singers(0, 0), 0);
        check.due("singers(1, 1)", x.singers(1, 1), 0);
    }

    @Edge(promise = 17, of = "the first and the last person are bits 0 and 29")
    static void endsOfPersons(Check check) {
        GleePrize x = new GleePrize();
        x.member(0, 0, 0, 0);
        x.member(29, 9, 1000, 1000);
        check.due("singers(0, 0)", x.singers(0, 0), 1);
        check.due("singers(9, 1000)", x.singers(9, 1000), 536870912);
    }

    @Edge(promise = 17, of = "all thirty persons")
    static void allPersons(Check check) {
        GleePrize x = fullDesk();
        check.due("singers(0, 0)", x.singers(0, 0), 1073741823);
        check.due("singers(9, 1000)", x.singers(9, 1000), 1073741823);
        check.due("singers(5, 500)", x.singers(5, 500), 0);
    }

    @Edge(promise = 17, of = "a person with several spans that hold is one bit")
    static void personOnce(Check check) {
        GleePrize x = new GleePrize();
        x.member(3, 2, 0, 10);
        x.member(3, 2, 5, 15);
        x.member(3, 2, 5, 15);
        check.due("singers(2, 7)", x.singers(2, 7), 8);
    }

    @Edge(promise = 17, of = "both ends of a span count")
    static void singersAtEnds(Check check) {
        GleePrize x = new GleePrize();
        x.member(1, 2, 10, 20);
        x.member(2, 2, 20, 30);
        int[] days = {9, 10, 19, 20, 21, 30, 31};
        int[] bits = {0, 2, 2, 6, 4, 4, 0};
        for (int i = 0; i < days.length; i++) {
            check.due("singers(2, " + days[i] + ")", x.singers(2, days[i]), bits[i]);
        }
    }

    @Edge(promise = 17, of = "NONE: no such club")
    static void singersOfNoClub(Check check) {
        GleePrize x = fullDesk();
        for (int club : Edges.outside(0, 9)) {
            check.due("singers(" + club + ", 0)", x.singers(club, 0), -1);
        }
    }

    @Edge(promise = 17, of = "NONE: no such day")
    static void singersOfNoDay(Check check) {
        GleePrize x = fullDesk();
        for (int day : Edges.outside(0, 1000)) {
            check.due("singers(0, " + day + ")", x.singers(0, day), -1);
        }
    }
}
