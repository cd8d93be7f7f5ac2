/** The boundary cases of promises 18 to 22: perform, clear, halls, hours, hour. */
public final class EdgeHoursTest {
    public static void main(String[] args) {
        Edges.run(EdgeHoursTest.class, 18, 22);
    }

    private static GleePrize deskOf(int... clubs) {
        GleePrize x = new GleePrize();
        for (int club : clubs) {
            x.perform(club);
        }
        return x;
    }

    /** Twelve performances: of clubs 0 to 9, then of 0 and 1 again. */
    private static GleePrize deskOfTwelve() {
        return deskOf(0, 1, 2, 3, 4, 5, 6, 7, 8, 9, 0, 1);
    }

    private static void stand(Check check, GleePrize x, int... hours) {
        for (int i = 0; i < hours.length; i++) {
            check.due("hour(" + i + ")", x.hour(i), hours[i]);
        }
        check.due("hour(" + hours.length + ")", x.hour(hours.length), -1);
    }

    // ---- promise 18: perform

    @Edge(promise = 18, of = "the first and the last club, numbered from 0 on")
    static void endsOfClubs(Check check) {
        GleePrize x = new GleePrize();
        check.due("perform(0)", x.perform(0), 0);
        check.due("perform(9)", x.perform(9), 1);
    }

    @Edge(promise = 18, of = "NONE: no such club; it gets no number")
    static void performOfNoClub(Check check) {
        GleePrize x = new GleePrize();
        for (int club : Edges.outside(0, 9)) {
            check.due("perform(" + club + ")", x.perform(club), -1);
        }
        check.due("the next one", x.perform(0), 0);
        check.due("clear()", x.clear(), 1);
    }

    @Edge(promise = 18, of = "twelve performances, of one club too")
    static void twelvePerform(Check check) {
        GleePrize x = new GleePrize();
        for (int i = 0; i < 12; i++) {
            check.due("performance " + i, x.perform(7), i);
        }
    }

    @Edge(promise = 18, of = "NONE: a thirteenth; nothing changes")
    static void thirteenth(Check check) {
        GleePrize x = deskOfTwelve();
        check.due("perform(5)", x.perform(5), -1);
        check.due("perform(5) again", x.perform(5), -1);
        check.due("hours(0)", x.hours(0), 6);
        check.due("hour(12)", x.hour(12), -1);
        check.due("clear()", x.clear(), 12);
    }

    // ---- promise 19: clear

    @Edge(promise = 19, of = "there were none")
    static void clearOfNone(Check check) {
        GleePrize x = new GleePrize();
        check.due("clear()", x.clear(), 0);
        check.due("clear() again", x.clear(), 0);
    }

    @Edge(promise = 19, of = "there was one")
    static void clearOfOne(Check check) {
        check.due("clear()", deskOf(3).clear(), 1);
    }

    @Edge(promise = 19, of = "there were twelve; there is room for as many, numbered from 0 on")
    static void clearOfTwelve(Check check) {
        GleePrize x = deskOfTwelve();
        check.due("clear()", x.clear(), 12);
        check.due("clear() again", x.clear(), 0);
        for (int i = 0; i < 12; i++) {
            check.due("performance " + i, x.perform(2), i);
        }
        check.due("the thirteenth", x.perform(2), -1);
    }

    @Edge(promise = 19, of = "the halls and the members stay")
    static void clearLeavesOthers(Check check) {
        GleePrize x = deskOf(0, 1);
        x.halls(3);
        x.member(5, 0, 0, 9);
        x.clear();
        check.due("singers(0, 9)", x.singers(0, 9), 32);
        check.due("halls(2)", x.halls(2), 3);
    }

    // ---- promise 20: halls

    @Edge(promise = 20, of = "one hall, the fewest")
    static void oneHall(Check check) {
        GleePrize x = deskOf(0, 1, 2);
        check.due("halls(1)", x.halls(1), 2);
        check.due("hours(0)", x.hours(0), 3);
        stand(check, x, 0, 1, 2);
    }

    @Edge(promise = 20, of = "four halls, the most")
    static void fourHalls(Check check) {
        GleePrize x = deskOf(0, 1, 2, 3, 4);
        check.due("halls(4)", x.halls(4), 2);
        check.due("hours(0)", x.hours(0), 2);
        stand(check, x, 0, 0, 0, 0, 1);
    }

    @Edge(promise = 20, of = "what it was, each of them")
    static void hallsInTurn(Check check) {
        GleePrize x = new GleePrize();
        check.due("halls(1)", x.halls(1), 2);
        check.due("halls(3)", x.halls(3), 1);
        check.due("halls(4)", x.halls(4), 3);
        check.due("halls(4) again", x.halls(4), 4);
        check.due("halls(2)", x.halls(2), 4);
    }

    @Edge(promise = 20, of = "NONE: no hall, or more than four; they stay as they were")
    static void noSuchHalls(Check check) {
        GleePrize x = deskOf(0, 1, 2);
        x.halls(3);
        for (int n : Edges.outside(1, 4)) {
            check.due("halls(" + n + ")", x.halls(n), -1);
            check.due("hours(0) after it", x.hours(0), 1);
        }
        check.due("halls(1)", x.halls(1), 3);
    }

    // ---- promise 21: hours

    @Edge(promise = 21, of = "0 without any performance, on the first and the last day, in any halls")
    static void hoursOfNone(Check check) {
        GleePrize x = new GleePrize();
        for (int n = 1; n <= 4; n++) {
            x.halls(n);
            check.due("hours(0) in " + n, x.hours(0), 0);
            check.due("hours(1000) in " + n, x.hours(1000), 0);
        }
    }

    @Edge(promise = 21, of = "one performance")
    static void hoursOfOne(Check check) {
        GleePrize x = deskOf(9);
        check.due("hours(0)", x.hours(0), 1);
        stand(check, x, 0);
    }

    @Edge(promise = 21, of = "NONE: no such day, with performances and without")
    static void hoursOfNoDay(Check check) {
        GleePrize none = new GleePrize();
        GleePrize one = deskOf(0);
        for (int day : Edges.outside(0, 1000)) {
            check.due("hours(" + day + ") of none", none.hours(day), -1);
            check.due("hours(" + day + ") of one", one.hours(day), -1);
        }
    }

    @Edge(promise = 21, of = "the first and the last day")
    static void endsOfDays(Check check) {
        GleePrize x = deskOf(0, 1);
        x.member(0, 0, 0, 0);
        x.member(0, 1, 0, 0);
        check.due("hours(0)", x.hours(0), 2);
        check.due("hours(1)", x.hours(1), 1);
        x.member(1, 0, 1000, 1000);
        x.member(1, 1, 1000, 1000);
        check.due("hours(999)", x.hours(999), 1);
        check.due("hours(1000)", x.hours(1000), 2);
    }

    @Edge(promise = 21, of = "a common singer on the last day of one span and the first of another")
    static void commonOnOneDay(Check check) {
        GleePrize x = deskOf(0, 1);
        x.member(29, 0, 10, 20);
        x.member(29, 1, 20, 30);
        check.due("hours(19)", x.hours(19), 1);
        check.due("hours(20)", x.hours(20), 2);
        check.due("hours(21)", x.hours(21), 1);
    }

    @Edge(promise = 21, of = "one of many singers is common, the first person or the last")
    static void oneCommonSinger(Check check) {
        int[] common = {0, 29};
        for (int person : common) {
            GleePrize x = deskOf(4, 5);
            for (int other = 1; other < 29; other++) {
                x.member(other, other % 2 == 0 ? 4 : 5, 0, 1000);
            }
            check.due("hours(7) without " + person, x.hours(7), 1);
            x.member(person, 4, 7, 7);
            x.member(person, 5, 7, 7);
            check.due("hours(7) with " + person, x.hours(7), 2);
        }
    }

    @Edge(promise = 21, of = "two of one club stand apart, without any singer")
    static void oneClubTwice(Check check) {
        GleePrize x = deskOf(6, 6);
        x.halls(4);
        check.due("hours(0)", x.hours(0), 2);
        stand(check, x, 0, 1);
    }

    @Edge(promise = 21, of = "as many as can be, in one to four halls")
    static void hoursOfTwelve(Check check) {
        int[] hours = {12, 6, 4, 3};
        for (int n = 1; n <= 4; n++) {
            GleePrize x = deskOfTwelve();
            x.halls(n);
            check.due("hours(0) in " + n, x.hours(0), hours[n - 1]);
            for (int i = 0; i < 12; i++) {
                check.due("hour(" + i + ") in " + n, x.hour(i), i / n);
            }
        }
    }

    @Edge(promise = 21, of = "a last hour that is not full: one performance more than the halls hold")
    static void lastHourNotFull(Check check) {
        for (int n = 1; n <= 4; n++) {
            GleePrize x = new GleePrize();
            x.halls(n);
            for (int i = 0; i < 2 * n; i++) {
                x.perform(i);
            }
            check.due("hours(0) of " + 2 * n, x.hours(0), 2);
            x.perform(2 * n);
            check.due("hours(0) of one more", x.hours(0), 3);
        }
    }

    @Edge(promise = 21, of = "twelve of one club take twelve hours, in four halls")
    static void twelveOfOneClub(Check check) {
        GleePrize x = deskOf(5, 5, 5, 5, 5, 5, 5, 5, 5, 5, 5, 5);
        x.halls(4);
        check.due("hours(0)", x.hours(0), 12);
        stand(check, x, 0, 1, 2, 3, 4, 5, 6, 7, 8, 9, 10, 11);
    }

    @Edge(promise = 21, of = "a singer of all clubs: twelve take twelve hours, that day alone")
    static void singerOfAll(Check check) {
        GleePrize x = deskOfTwelve();
        x.halls(4);
        for (int club = 0; club < 10; club++) {
            x.member(17, club, 50, 50);
        }
        check.due("hours(49)", x.hours(49), 3);
        check.due("hours(50)", x.hours(50), 12);
        stand(check, x, 0, 1, 2, 3, 4, 5, 6, 7, 8, 9, 10, 11);
    }

    private static void clash(GleePrize x, int person, int a, int b) {
        x.member(person, a, 0, 1000);
        x.member(person, b, 0, 1000);
    }

    // With 0 and 1 in one hour, 2 and 3 would need an hour each.
    @Edge(promise = 21, of = "the fewest hours go ahead of a lesser hour for an early performance")
    static void fewestFirst(Check check) {
        GleePrize x = deskOf(0, 1, 2, 3);
        clash(x, 0, 0, 3);
        clash(x, 1, 1, 2);
        clash(x, 2, 2, 3);
        check.due("hours(0)", x.hours(0), 2);
        stand(check, x, 0, 1, 0, 1);
    }

    @Edge(promise = 21, of = "two hours do for a chain of clashes, in any order")
    static void chainOfClashes(Check check) {
        GleePrize x = deskOf(0, 1, 2, 3);
        clash(x, 0, 1, 0);
        clash(x, 1, 0, 3);
        clash(x, 2, 3, 2);
        check.due("hours(0)", x.hours(0), 2);
        stand(check, x, 0, 1, 0, 1);
    }

    @Edge(promise = 21, of = "two hours do for a ring of four, a ring of five takes three though no three clash")
    static void ringsOfClashes(Check check) {
        int[] hours = {2, 3};
        for (int size = 4; size <= 5; size++) {
            GleePrize x = new GleePrize();
            x.halls(4);
            for (int club = 0; club < size; club++) {
                x.perform(club);
                clash(x, club, club, (club + 1) % size);
            }
            check.due("hours(0) of " + size, x.hours(0), hours[size - 4]);
            check.due("hour(3) of " + size, x.hour(3), 1);
            check.due("hour(4) of " + size, x.hour(4), size == 5 ? 2 : -1);
        }
    }

    // Two stand beside 0, two beside 1: 2 with 0 is the lesser way, though 3 and 4 could both stand there.
    @Edge(promise = 21, of = "of several the lesser hour for the first performance in which they differ")
    static void lesserHourFirst(Check check) {
        GleePrize x = deskOf(0, 1, 2, 3, 4, 5);
        x.halls(3);
        clash(x, 0, 0, 1);
        clash(x, 1, 2, 3);
        check.due("hours(0)", x.hours(0), 2);
        stand(check, x, 0, 1, 0, 1, 0, 1);
    }

    @Edge(promise = 21, of = "asked for anew after a change of performances, halls, members and day")
    static void hoursAnew(Check check) {
        GleePrize x = deskOf(0, 1, 2);
        check.due("hours(5)", x.hours(5), 2);
        x.halls(3);
        check.due("hours(5) in three halls", x.hours(5), 1);
        clash(x, 0, 0, 1);
        check.due("hours(5) with a common singer", x.hours(5), 2);
        x.member(1, 0, 6, 6);
        x.member(1, 2, 6, 6);
        x.member(0, 2, 6, 6);
        check.due("hours(6)", x.hours(6), 3);
        check.due("hours(5) again", x.hours(5), 2);
        stand(check, x, 0, 1, 0);
        x.perform(0);
        x.perform(0);
        check.due("hours(5) with two more of 0", x.hours(5), 4);
        x.clear();
        check.due("hours(5) of none", x.hours(5), 0);
        x.perform(2);
        check.due("hours(5) of one", x.hours(5), 1);
    }

    // ---- promise 22: hour

    @Edge(promise = 22, of = "NONE: ahead of any hours()")
    static void hourAheadOfHours(Check check) {
        stand(check, deskOf());
        GleePrize x = deskOf(0);
        check.due("hour(0)", x.hour(0), -1);
    }

    @Edge(promise = 22, of = "NONE: hours() was refused, and none was found before")
    static void hourAfterRefusedAlone(Check check) {
        GleePrize x = deskOf(0);
        check.due("hours(1001)", x.hours(1001), -1);
        check.due("hour(0)", x.hour(0), -1);
    }

    @Edge(promise = 22, of = "NONE: no such performance; the first and the last are there")
    static void hourOfNone(Check check) {
        GleePrize x = deskOf(0, 1, 2);
        x.hours(0);
        for (int i : Edges.outside(0, 2)) {
            check.due("hour(" + i + ")", x.hour(i), -1);
        }
        check.due("hour(0)", x.hour(0), 0);
        check.due("hour(2)", x.hour(2), 1);
    }

    @Edge(promise = 22, of = "NONE: no such performance of twelve; the twelfth is there")
    static void hourOfThirteenth(Check check) {
        GleePrize x = deskOfTwelve();
        x.hours(0);
        for (int i : Edges.outside(0, 11)) {
            check.due("hour(" + i + ")", x.hour(i), -1);
        }
        check.due("hour(11)", x.hour(11), 5);
    }

    @Edge(promise = 22, of = "a refused hours() leaves those found before")
    static void hourAfterRefused(Check check) {
        GleePrize x = deskOf(4, 4);
        x.hours(0);
        for (int day : Edges.outside(0, 1000)) {
            x.hours(day);
        }
        stand(check, x, 0, 1);
    }

    @Edge(promise = 22, of = "a refused hours() leaves those found before, though much changed since")
    static void hourAfterChangesAndRefused(Check check) {
        GleePrize x = deskOf(4, 4);
        x.hours(0);
        x.clear();
        x.perform(1);
        x.perform(2);
        x.perform(3);
        x.hours(-1);
        stand(check, x, 0, 1);
    }

    @Edge(promise = 22, of = "as they were then: a performance that came later has none")
    static void hourOfLater(Check check) {
        GleePrize x = deskOf(4, 4);
        x.hours(0);
        x.perform(5);
        stand(check, x, 0, 1);
    }

    @Edge(promise = 22, of = "as they were then: clear() takes nothing away")
    static void hourAfterClear(Check check) {
        GleePrize x = deskOf(4, 4);
        x.hours(0);
        x.clear();
        stand(check, x, 0, 1);
        x.perform(1);
        stand(check, x, 0, 1);
    }

    @Edge(promise = 22, of = "as they were then: halls() and member() change nothing")
    static void hourAfterHallsAndMembers(Check check) {
        GleePrize x = deskOf(0, 1);
        x.hours(0);
        x.halls(1);
        clash(x, 0, 0, 1);
        stand(check, x, 0, 0);
    }

    @Edge(promise = 22, of = "the latest hours(): fewer performances than before, and none")
    static void hourOfLatest(Check check) {
        GleePrize x = deskOf(4, 4, 4);
        x.hours(0);
        x.clear();
        x.perform(1);
        x.hours(0);
        stand(check, x, 0);
        x.clear();
        x.hours(0);
        stand(check, x);
    }
}
